theorem c_X1_mulN {G : GG} {j nw nx gn : Nat} {g : Nat → Sh} {c : Nat → Nat → Int} {post : Option AV → AM → Prop} {e x y : Nat} {P : GD} {be : Nat → Nat} {le : Nat → Nat} {hd : Nat → Nat} {ls : Nat → Nat} {st : Nat → Int} {pr : Nat → Nat} {iv : Nat → Nat} {fa : Nat → Nat} {eb : Nat → Nat} {ml : Nat → Nat} {mf : Nat → Int} {rw : Nat → Nat} {dn : Nat → Nat} {mm : Nat} (he : e = 21 ∨ e = 35) (hpr : ∀ x y, x < gN P → y < gN P → pr (x * 60 + y) = gX P x y) (hV : GV P) (p1 : x < gN P) (p2 : y < gN P) (K : post (some (vi ((gX P x y : Nat) : Int))) (S nw nx g, 78 + gn, (em c e be le hd ls st pr iv fa eb ml mf rw dn (gR P) (gN P) mm))) : SM G (j + 1) mX1_mul [vr (e), vi (((x : Nat) : Int)), vi (((y : Nat) : Int))] (S nw nx g, 78 + gn, (em c e be le hd ls st pr iv fa eb ml mf rw dn (gR P) (gN P) mm)) 0 0 post := by
  have := GV_N hV
  refine c_X1_mulE he (by omega) (by omega) ?_
  rw [hpr x y p1 p2]
  exact K

set_option maxHeartbeats 2000000 in
set_option maxRecDepth 20000 in
theorem g_X1_fillDescents_0 {G : GG} {j nw nx gn : Nat} {g : Nat → Sh} {c : Nat → Nat → Int} {post : Option AV → AM → Prop} {e : Nat} (he : e = 21 ∨ e = 35) {P : GD} {be : Nat → Nat} {le : Nat → Nat} {hd : Nat → Nat} {ls : Nat → Nat} {st : Nat → Int} {pr : Nat → Nat} {iv : Nat → Nat} {fa : Nat → Nat} {eb : Nat → Nat} {ml : Nat → Nat} {mf : Nat → Int} {rw : Nat → Nat} {dn : Nat → Nat} {mm : Nat} (hle : ∀ x, x < gN P → le x = gL P x) (hhd : ∀ x, x < gN P → hd x = gH P x) (hls : ∀ x, x < gN P → ls x = gA P x) (hst : ∀ x s, x < gN P → s < gR P → st (x * 5 + s) = ((gS P x s : Nat) : Int)) (hV : GV P) (hC : GC P) (hpr : ∀ x y, x < gN P → y < gN P → pr (x * 60 + y) = gX P x y) (hiv : ∀ x, x < gN P → iv x = gI P x)  (hv : SW G (j + 1) mX1_fillDescents 2 [some (vr (e)), some (vi (0)), none] [] (S nw nx g, 78 + gn, (em c e be le hd ls st pr iv fa eb ml mf rw dn (gR P) (gN P) mm)) B0 post) :
    SW G (j + 1) mX1_fillDescents 0 [some (vr (e)), none, none] [] (S nw nx g, 78 + gn, (em c e be le hd ls st pr iv fa eb ml mf rw dn (gR P) (gN P) mm)) B0 post := by
  refine sw_iconst (dX1_fillDescents_0.at 0 rfl) ?_
  refine sw_istore_n (lo' := [some (vr (e)), some (vi (0)), none]) (dX1_fillDescents_0.at 1 rfl) rfl (by decide) rfl ?_
  exact hv

set_option maxHeartbeats 2000000 in
set_option maxRecDepth 20000 in
theorem g_X1_fillDescents_2 {G : GG} {j nw nx gn : Nat} {g : Nat → Sh} {c : Nat → Nat → Int} {post : Option AV → AM → Prop} {e : Nat} (he : e = 21 ∨ e = 35) {P : GD} {be : Nat → Nat} {le : Nat → Nat} {hd : Nat → Nat} {ls : Nat → Nat} {st : Nat → Int} {pr : Nat → Nat} {iv : Nat → Nat} {fa : Nat → Nat} {eb : Nat → Nat} {ml : Nat → Nat} {mf : Nat → Int} {rw : Nat → Nat} {dn : Nat → Nat} {mm : Nat} {xx : Nat} (hle : ∀ x, x < gN P → le x = gL P x) (hhd : ∀ x, x < gN P → hd x = gH P x) (hls : ∀ x, x < gN P → ls x = gA P x) (hst : ∀ x s, x < gN P → s < gR P → st (x * 5 + s) = ((gS P x s : Nat) : Int)) (hV : GV P) (hC : GC P) (hpr : ∀ x y, x < gN P → y < gN P → pr (x * 60 + y) = gX P x y) (hiv : ∀ x, x < gN P → iv x = gI P x)  (hv : (xx < 2147483648) ∧ (gN P < 2147483648) ∧ (((gN P ≤ xx) → post none (S nw nx g, 78 + gn, (em c e be le hd ls st pr iv fa eb ml mf rw dn (gR P) (gN P) mm))) ∧ ((¬ (gN P ≤ xx)) → (xx < 60) ∧ ((xx < 60) ∧ (SW G (j + 1) mX1_fillDescents 26 [some (vr (e)), some (vi (((xx : Nat) : Int))), some (vi (0))] [] (S nw nx g, 78 + gn, (em c e be le hd ls st pr iv (uN fa xx 0) (uN eb xx 0) ml mf rw dn (gR P) (gN P) mm)) B0 post))))) :
    SW G (j + 1) mX1_fillDescents 2 [some (vr (e)), some (vi (((xx : Nat) : Int))), none] [] (S nw nx g, 78 + gn, (em c e be le hd ls st pr iv fa eb ml mf rw dn (gR P) (gN P) mm)) B0 post := by
  refine sw_iload_n (dX1_fillDescents_0.at 2 rfl) rfl rfl ?_
  refine sw_aload_n (dX1_fillDescents_0.at 3 rfl) rfl rfl ?_
  refine sw_getIE (w := ((gN P : Nat) : Int)) (dX1_fillDescents_0.at 4 rfl) fp_X1_59 (S_e_lt he) (S_e he) rfl em_f14 ?_
  refine sw_icmpN_ge xx (gN P) (tgt := 112) (dX1_fillDescents_0.at 5 rfl) (by decide) hv.1 hv.2.1 (fun q => ?_) (fun q => ?_)
  · replace hv := hv.2.2.1 q
    exact sw_vret (dX1_fillDescents_1.at 22 rfl) rfl (Nat.le_refl _) (Nat.le_refl _) hv
  · replace hv := hv.2.2.2 q
    refine sw_aload_n (dX1_fillDescents_0.at 6 rfl) rfl rfl ?_
    refine sw_getR (dX1_fillDescents_0.at 7 rfl) fp_X1_33 (S_e_lt he) (S_e he) rfl rfl ?_
    refine sw_iload_n (dX1_fillDescents_0.at 8 rfl) rfl rfl ?_
    refine sw_iconst (dX1_fillDescents_0.at 9 rfl) ?_
    refine sw_iastN xx (dX1_fillDescents_0.at 10 rfl) (S_ek_lt he (by decide)) (S_e_8 he) (by decide) hv.1 ?_
    refine SW.cg (M' := (S nw nx g, 78 + gn, (em c e be le hd ls st pr iv (uN fa xx 0) eb ml mf rw dn (gR P) (gN P) mm))) (congrArg (fun m => (S nw nx g, 78 + gn, m)) em_w8) ?_
    replace hv := hv.2
    refine sw_aload_n (dX1_fillDescents_0.at 11 rfl) rfl rfl ?_
    refine sw_getR (dX1_fillDescents_0.at 12 rfl) fp_X1_36 (S_e_lt he) (S_e he) rfl rfl ?_
    refine sw_iload_n (dX1_fillDescents_0.at 13 rfl) rfl rfl ?_
    refine sw_iconst (dX1_fillDescents_0.at 14 rfl) ?_
    refine sw_iastN xx (dX1_fillDescents_0.at 15 rfl) (S_ek_lt he (by decide)) (S_e_9 he) (by decide) hv.1 ?_
    refine SW.cg (M' := (S nw nx g, 78 + gn, (em c e be le hd ls st pr iv (uN fa xx 0) (uN eb xx 0) ml mf rw dn (gR P) (gN P) mm))) (congrArg (fun m => (S nw nx g, 78 + gn, m)) em_w9) ?_
    replace hv := hv.2
    refine sw_iconst (dX1_fillDescents_0.at 16 rfl) ?_
    refine sw_istore_n (lo' := [some (vr (e)), some (vi (((xx : Nat) : Int))), some (vi (0))]) (dX1_fillDescents_0.at 17 rfl) rfl (by decide) rfl ?_
    exact hv

set_option maxHeartbeats 2000000 in
set_option maxRecDepth 20000 in
theorem g_X1_fillDescents_26 {G : GG} {j nw nx gn : Nat} {g : Nat → Sh} {c : Nat → Nat → Int} {post : Option AV → AM → Prop} {e : Nat} (he : e = 21 ∨ e = 35) {P : GD} {be : Nat → Nat} {le : Nat → Nat} {hd : Nat → Nat} {ls : Nat → Nat} {st : Nat → Int} {pr : Nat → Nat} {iv : Nat → Nat} {fa : Nat → Nat} {eb : Nat → Nat} {ml : Nat → Nat} {mf : Nat → Int} {rw : Nat → Nat} {dn : Nat → Nat} {mm : Nat} {xx : Nat} {ss : Nat} (hle : ∀ x, x < gN P → le x = gL P x) (hhd : ∀ x, x < gN P → hd x = gH P x) (hls : ∀ x, x < gN P → ls x = gA P x) (hst : ∀ x s, x < gN P → s < gR P → st (x * 5 + s) = ((gS P x s : Nat) : Int)) (hV : GV P) (hC : GC P) (hpr : ∀ x y, x < gN P → y < gN P → pr (x * 60 + y) = gX P x y) (hiv : ∀ x, x < gN P → iv x = gI P x)  (hv : (ss < 2147483648) ∧ (gR P < 2147483648) ∧ (((gR P ≤ ss) → SW G (j + 1) mX1_fillDescents 2 [some (vr (e)), some (vi (((xx + 1 : Nat) : Int))), none] [] (S nw nx g, 78 + gn, (em c e be le hd ls st pr iv fa eb ml mf rw dn (gR P) (gN P) mm)) B0 post) ∧ ((¬ (gR P ≤ ss)) → (ss + 1 < gN P) ∧ (xx < gN P) ∧ ((gX P (ss + 1) xx < gN P) ∧ (gX P (ss + 1) xx < 60) ∧ ((xx < gN P) ∧ (xx < 60) ∧ ((gL P (gX P (ss + 1) xx) < 2147483648) ∧ (gL P xx < 2147483648) ∧ (((gL P xx ≤ gL P (gX P (ss + 1) xx)) → (xx < gN P) ∧ (ss < gR P) ∧ ((gS P xx ss < gN P) ∧ (gS P xx ss < 60) ∧ ((xx < gN P) ∧ (xx < 60) ∧ ((gL P (gS P xx ss) < 2147483648) ∧ (gL P xx < 2147483648) ∧ (((gL P xx ≤ gL P (gS P xx ss)) → SW G (j + 1) mX1_fillDescents 26 [some (vr (e)), some (vi (((xx : Nat) : Int))), some (vi (((ss + 1 : Nat) : Int)))] [] (S nw nx g, 78 + gn, (em c e be le hd ls st pr iv fa eb ml mf rw dn (gR P) (gN P) mm)) B0 post) ∧ ((¬ (gL P xx ≤ gL P (gS P xx ss))) → (xx < 60) ∧ ((ss < 32) ∧ ((xx < 60) ∧ (SW G (j + 1) mX1_fillDescents 26 [some (vr (e)), some (vi (((xx : Nat) : Int))), some (vi (((ss + 1 : Nat) : Int)))] [] (S nw nx g, 78 + gn, (em c e be le hd ls st pr iv fa (uN eb xx ((eb xx) ||| (1 * 2 ^ ss))) ml mf rw dn (gR P) (gN P) mm)) B0 post))))))))) ∧ ((¬ (gL P xx ≤ gL P (gX P (ss + 1) xx))) → (xx < 60) ∧ ((ss < 32) ∧ ((xx < 60) ∧ ((xx < gN P) ∧ (ss < gR P) ∧ ((gS P xx ss < gN P) ∧ (gS P xx ss < 60) ∧ ((xx < gN P) ∧ (xx < 60) ∧ ((gL P (gS P xx ss) < 2147483648) ∧ (gL P xx < 2147483648) ∧ (((gL P xx ≤ gL P (gS P xx ss)) → SW G (j + 1) mX1_fillDescents 26 [some (vr (e)), some (vi (((xx : Nat) : Int))), some (vi (((ss + 1 : Nat) : Int)))] [] (S nw nx g, 78 + gn, (em c e be le hd ls st pr iv (uN fa xx ((fa xx) ||| (1 * 2 ^ ss))) eb ml mf rw dn (gR P) (gN P) mm)) B0 post) ∧ ((¬ (gL P xx ≤ gL P (gS P xx ss))) → (xx < 60) ∧ ((ss < 32) ∧ ((xx < 60) ∧ (SW G (j + 1) mX1_fillDescents 26 [some (vr (e)), some (vi (((xx : Nat) : Int))), some (vi (((ss + 1 : Nat) : Int)))] [] (S nw nx g, 78 + gn, (em c e be le hd ls st pr iv (uN fa xx ((fa xx) ||| (1 * 2 ^ ss))) (uN eb xx ((eb xx) ||| (1 * 2 ^ ss))) ml mf rw dn (gR P) (gN P) mm)) B0 post))))))))))))))))))) :
    SW G (j + 1) mX1_fillDescents 26 [some (vr (e)), some (vi (((xx : Nat) : Int))), some (vi (((ss : Nat) : Int)))] [] (S nw nx g, 78 + gn, (em c e be le hd ls st pr iv fa eb ml mf rw dn (gR P) (gN P) mm)) B0 post := by
  refine sw_iload_n (dX1_fillDescents_0.at 18 rfl) rfl rfl ?_
  refine sw_aload_n (dX1_fillDescents_0.at 19 rfl) rfl rfl ?_
  refine sw_getIE (w := ((gR P : Nat) : Int)) (dX1_fillDescents_0.at 20 rfl) fp_X1_58 (S_e_lt he) (S_e he) rfl em_f13 ?_
  refine sw_icmpN_ge ss (gR P) (tgt := 106) (dX1_fillDescents_0.at 21 rfl) (by decide) hv.1 hv.2.1 (fun q => ?_) (fun q => ?_)
  · replace hv := hv.2.2.1 q
    refine sw_iinc (lo' := [some (vr (e)), some (vi (((xx + 1 : Nat) : Int))), some (vi (((ss : Nat) : Int)))]) (dX1_fillDescents_1.at 20 rfl) rfl (by decide) rfl ?_
    refine sw_goto (tgt := 2) (dX1_fillDescents_1.at 21 rfl) (by decide) ?_
    exact sw_mask (bs := [true, true, false]) hv
  · replace hv := hv.2.2.2 q
    refine sw_aload_n (dX1_fillDescents_0.at 22 rfl) rfl rfl ?_
    refine sw_getR (dX1_fillDescents_0.at 23 rfl) fp_X1_15 (S_e_lt he) (S_e he) rfl rfl ?_
    refine sw_aload_n (dX1_fillDescents_0.at 24 rfl) rfl rfl ?_
    refine sw_iload_n (dX1_fillDescents_0.at 25 rfl) rfl rfl ?_
    refine sw_iconst (dX1_fillDescents_0.at 26 rfl) ?_
    refine sw_iadd (dX1_fillDescents_0.at 27 rfl) ?_
    refine sw_topI (y := ((ss + 1 : Nat) : Int)) (by first | rfl | (congr 1)) ?_
    refine sw_iload_n (dX1_fillDescents_0.at 28 rfl) rfl rfl ?_
    refine sw_callV (B' := B0) (As := [vi (((ss + 1 : Nat) : Int)), vi (((xx : Nat) : Int))]) (mc := 0) (ms := 0) (dX1_fillDescents_0.at 29 rfl) lk_X1_110 (S_e_lt he) (S_e he) rfl rfl (Nat.le_of_ble_eq_true rfl) rfl (Nat.le_refl _) (Nat.le_refl _) ?_
    refine c_X1_mulN (x := (ss + 1)) (y := xx) (j := j + 0) he hpr hV hv.1 hv.2.1 ?_
    replace hv := hv.2.2
    refine sw_ialdN (gX P (ss + 1) xx) (w := ((gL P (gX P (ss + 1) xx) : Nat) : Int)) (dX1_fillDescents_0.at 30 rfl) (S_ek_lt he (by decide)) (S_e_2 he) (by decide) hv.2.1 (em_r2.trans (congrArg Int.ofNat (hle _ hv.1))) ?_
    replace hv := hv.2.2
    refine sw_aload_n (dX1_fillDescents_0.at 31 rfl) rfl rfl ?_
    refine sw_getR (dX1_fillDescents_0.at 32 rfl) fp_X1_15 (S_e_lt he) (S_e he) rfl rfl ?_
    refine sw_iload_n (dX1_fillDescents_0.at 33 rfl) rfl rfl ?_
    refine sw_ialdN xx (w := ((gL P xx : Nat) : Int)) (dX1_fillDescents_0.at 34 rfl) (S_ek_lt he (by decide)) (S_e_2 he) (by decide) hv.2.1 (em_r2.trans (congrArg Int.ofNat (hle _ hv.1))) ?_
    replace hv := hv.2.2
    refine sw_icmpN_ge (gL P (gX P (ss + 1) xx)) (gL P xx) (tgt := 68) (dX1_fillDescents_0.at 35 rfl) (by decide) hv.1 hv.2.1 (fun q => ?_) (fun q => ?_)
    · replace hv := hv.2.2.1 q
      refine sw_aload_n (dX1_fillDescents_0.at 46 rfl) rfl rfl ?_
      refine sw_getR (dX1_fillDescents_0.at 47 rfl) fp_X1_15 (S_e_lt he) (S_e he) rfl rfl ?_
      refine sw_aload_n (dX1_fillDescents_0.at 48 rfl) rfl rfl ?_
      refine sw_iload_n (dX1_fillDescents_0.at 49 rfl) rfl rfl ?_
      refine sw_iload_n (dX1_fillDescents_1.at 0 rfl) rfl rfl ?_
      refine sw_callV (B' := B0) (As := [vi (((xx : Nat) : Int)), vi (((ss : Nat) : Int))]) (mc := 0) (ms := 0) (dX1_fillDescents_1.at 1 rfl) lk_X1_92 (S_e_lt he) (S_e he) rfl rfl (Nat.le_of_ble_eq_true rfl) rfl (Nat.le_refl _) (Nat.le_refl _) ?_
      refine c_X1_byN (x := xx) (s := ss) (j := j + 0) he hst hV hv.1 hv.2.1 ?_
      replace hv := hv.2.2
      refine sw_ialdN (gS P xx ss) (w := ((gL P (gS P xx ss) : Nat) : Int)) (dX1_fillDescents_1.at 2 rfl) (S_ek_lt he (by decide)) (S_e_2 he) (by decide) hv.2.1 (em_r2.trans (congrArg Int.ofNat (hle _ hv.1))) ?_
      replace hv := hv.2.2
      refine sw_aload_n (dX1_fillDescents_1.at 3 rfl) rfl rfl ?_
      refine sw_getR (dX1_fillDescents_1.at 4 rfl) fp_X1_15 (S_e_lt he) (S_e he) rfl rfl ?_
      refine sw_iload_n (dX1_fillDescents_1.at 5 rfl) rfl rfl ?_
      refine sw_ialdN xx (w := ((gL P xx : Nat) : Int)) (dX1_fillDescents_1.at 6 rfl) (S_ek_lt he (by decide)) (S_e_2 he) (by decide) hv.2.1 (em_r2.trans (congrArg Int.ofNat (hle _ hv.1))) ?_
      replace hv := hv.2.2
      refine sw_icmpN_ge (gL P (gS P xx ss)) (gL P xx) (tgt := 100) (dX1_fillDescents_1.at 7 rfl) (by decide) hv.1 hv.2.1 (fun q => ?_) (fun q => ?_)
      · replace hv := hv.2.2.1 q
        refine sw_iinc (lo' := [some (vr (e)), some (vi (((xx : Nat) : Int))), some (vi (((ss + 1 : Nat) : Int)))]) (dX1_fillDescents_1.at 18 rfl) rfl (by decide) rfl ?_
        refine sw_goto (tgt := 26) (dX1_fillDescents_1.at 19 rfl) (by decide) ?_
        exact hv
      · replace hv := hv.2.2.2 q
        refine sw_aload_n (dX1_fillDescents_1.at 8 rfl) rfl rfl ?_
        refine sw_getR (dX1_fillDescents_1.at 9 rfl) fp_X1_36 (S_e_lt he) (S_e he) rfl rfl ?_
        refine sw_iload_n (dX1_fillDescents_1.at 10 rfl) rfl rfl ?_
        refine sw_dup2 (dX1_fillDescents_1.at 11 rfl) (fun _ h => by cases h) (fun _ h => by cases h) ?_
        refine sw_ialdN xx (w := ((eb xx : Nat) : Int)) (dX1_fillDescents_1.at 12 rfl) (S_ek_lt he (by decide)) (S_e_9 he) (by decide) hv.1 em_r9 ?_
        replace hv := hv.2
        refine sw_iconst (dX1_fillDescents_1.at 13 rfl) ?_
        refine sw_iload_n (dX1_fillDescents_1.at 14 rfl) rfl rfl ?_
        refine sw_ishlN 1 ss (dX1_fillDescents_1.at 15 rfl) hv.1 ?_
        replace hv := hv.2
        refine sw_orN (eb xx) (1 * 2 ^ ss) (dX1_fillDescents_1.at 16 rfl) ?_
        refine sw_iastN xx (dX1_fillDescents_1.at 17 rfl) (S_ek_lt he (by decide)) (S_e_9 he) (by decide) hv.1 ?_
        refine SW.cg (M' := (S nw nx g, 78 + gn, (em c e be le hd ls st pr iv fa (uN eb xx ((eb xx) ||| (1 * 2 ^ ss))) ml mf rw dn (gR P) (gN P) mm))) (congrArg (fun m => (S nw nx g, 78 + gn, m)) em_w9) ?_
        replace hv := hv.2
        refine sw_iinc (lo' := [some (vr (e)), some (vi (((xx : Nat) : Int))), some (vi (((ss + 1 : Nat) : Int)))]) (dX1_fillDescents_1.at 18 rfl) rfl (by decide) rfl ?_
        refine sw_goto (tgt := 26) (dX1_fillDescents_1.at 19 rfl) (by decide) ?_
        exact hv
    · replace hv := hv.2.2.2 q
      refine sw_aload_n (dX1_fillDescents_0.at 36 rfl) rfl rfl ?_
      refine sw_getR (dX1_fillDescents_0.at 37 rfl) fp_X1_33 (S_e_lt he) (S_e he) rfl rfl ?_
      refine sw_iload_n (dX1_fillDescents_0.at 38 rfl) rfl rfl ?_
      refine sw_dup2 (dX1_fillDescents_0.at 39 rfl) (fun _ h => by cases h) (fun _ h => by cases h) ?_
      refine sw_ialdN xx (w := ((fa xx : Nat) : Int)) (dX1_fillDescents_0.at 40 rfl) (S_ek_lt he (by decide)) (S_e_8 he) (by decide) hv.1 em_r8 ?_
      replace hv := hv.2
      refine sw_iconst (dX1_fillDescents_0.at 41 rfl) ?_
      refine sw_iload_n (dX1_fillDescents_0.at 42 rfl) rfl rfl ?_
      refine sw_ishlN 1 ss (dX1_fillDescents_0.at 43 rfl) hv.1 ?_
      replace hv := hv.2
      refine sw_orN (fa xx) (1 * 2 ^ ss) (dX1_fillDescents_0.at 44 rfl) ?_
      refine sw_iastN xx (dX1_fillDescents_0.at 45 rfl) (S_ek_lt he (by decide)) (S_e_8 he) (by decide) hv.1 ?_
      refine SW.cg (M' := (S nw nx g, 78 + gn, (em c e be le hd ls st pr iv (uN fa xx ((fa xx) ||| (1 * 2 ^ ss))) eb ml mf rw dn (gR P) (gN P) mm))) (congrArg (fun m => (S nw nx g, 78 + gn, m)) em_w8) ?_
      replace hv := hv.2
      refine sw_aload_n (dX1_fillDescents_0.at 46 rfl) rfl rfl ?_
      refine sw_getR (dX1_fillDescents_0.at 47 rfl) fp_X1_15 (S_e_lt he) (S_e he) rfl rfl ?_
      refine sw_aload_n (dX1_fillDescents_0.at 48 rfl) rfl rfl ?_
      refine sw_iload_n (dX1_fillDescents_0.at 49 rfl) rfl rfl ?_
      refine sw_iload_n (dX1_fillDescents_1.at 0 rfl) rfl rfl ?_
      refine sw_callV (B' := B0) (As := [vi (((xx : Nat) : Int)), vi (((ss : Nat) : Int))]) (mc := 0) (ms := 0) (dX1_fillDescents_1.at 1 rfl) lk_X1_92 (S_e_lt he) (S_e he) rfl rfl (Nat.le_of_ble_eq_true rfl) rfl (Nat.le_refl _) (Nat.le_refl _) ?_
      refine c_X1_byN (x := xx) (s := ss) (j := j + 0) he hst hV hv.1 hv.2.1 ?_
      replace hv := hv.2.2
      refine sw_ialdN (gS P xx ss) (w := ((gL P (gS P xx ss) : Nat) : Int)) (dX1_fillDescents_1.at 2 rfl) (S_ek_lt he (by decide)) (S_e_2 he) (by decide) hv.2.1 (em_r2.trans (congrArg Int.ofNat (hle _ hv.1))) ?_
      replace hv := hv.2.2
      refine sw_aload_n (dX1_fillDescents_1.at 3 rfl) rfl rfl ?_
      refine sw_getR (dX1_fillDescents_1.at 4 rfl) fp_X1_15 (S_e_lt he) (S_e he) rfl rfl ?_
      refine sw_iload_n (dX1_fillDescents_1.at 5 rfl) rfl rfl ?_
      refine sw_ialdN xx (w := ((gL P xx : Nat) : Int)) (dX1_fillDescents_1.at 6 rfl) (S_ek_lt he (by decide)) (S_e_2 he) (by decide) hv.2.1 (em_r2.trans (congrArg Int.ofNat (hle _ hv.1))) ?_
      replace hv := hv.2.2
      refine sw_icmpN_ge (gL P (gS P xx ss)) (gL P xx) (tgt := 100) (dX1_fillDescents_1.at 7 rfl) (by decide) hv.1 hv.2.1 (fun q => ?_) (fun q => ?_)
      · replace hv := hv.2.2.1 q
        refine sw_iinc (lo' := [some (vr (e)), some (vi (((xx : Nat) : Int))), some (vi (((ss + 1 : Nat) : Int)))]) (dX1_fillDescents_1.at 18 rfl) rfl (by decide) rfl ?_
        refine sw_goto (tgt := 26) (dX1_fillDescents_1.at 19 rfl) (by decide) ?_
        exact hv
      · replace hv := hv.2.2.2 q
        refine sw_aload_n (dX1_fillDescents_1.at 8 rfl) rfl rfl ?_
        refine sw_getR (dX1_fillDescents_1.at 9 rfl) fp_X1_36 (S_e_lt he) (S_e he) rfl rfl ?_
        refine sw_iload_n (dX1_fillDescents_1.at 10 rfl) rfl rfl ?_
        refine sw_dup2 (dX1_fillDescents_1.at 11 rfl) (fun _ h => by cases h) (fun _ h => by cases h) ?_
        refine sw_ialdN xx (w := ((eb xx : Nat) : Int)) (dX1_fillDescents_1.at 12 rfl) (S_ek_lt he (by decide)) (S_e_9 he) (by decide) hv.1 em_r9 ?_
        replace hv := hv.2
        refine sw_iconst (dX1_fillDescents_1.at 13 rfl) ?_
        refine sw_iload_n (dX1_fillDescents_1.at 14 rfl) rfl rfl ?_
        refine sw_ishlN 1 ss (dX1_fillDescents_1.at 15 rfl) hv.1 ?_
        replace hv := hv.2
        refine sw_orN (eb xx) (1 * 2 ^ ss) (dX1_fillDescents_1.at 16 rfl) ?_
        refine sw_iastN xx (dX1_fillDescents_1.at 17 rfl) (S_ek_lt he (by decide)) (S_e_9 he) (by decide) hv.1 ?_
        refine SW.cg (M' := (S nw nx g, 78 + gn, (em c e be le hd ls st pr iv (uN fa xx ((fa xx) ||| (1 * 2 ^ ss))) (uN eb xx ((eb xx) ||| (1 * 2 ^ ss))) ml mf rw dn (gR P) (gN P) mm))) (congrArg (fun m => (S nw nx g, 78 + gn, m)) em_w9) ?_
        replace hv := hv.2
        refine sw_iinc (lo' := [some (vr (e)), some (vi (((xx : Nat) : Int))), some (vi (((ss + 1 : Nat) : Int)))]) (dX1_fillDescents_1.at 18 rfl) rfl (by decide) rfl ?_
        refine sw_goto (tgt := 26) (dX1_fillDescents_1.at 19 rfl) (by decide) ?_
        exact hv

def pFx (P : GD) (x : Nat) : Nat → Bool := fun s => decide (gL P (gX P (s + 1) x) < gL P x)
def pEx (P : GD) (x : Nat) : Nat → Bool := fun s => decide (gL P (gS P x s) < gL P x)
theorem pF_g {P : GD} (hC : GC P) (hP : FQ P) {x : Nat} (hx : x < gN P) : bitsU (pFx P x) (gR P) = gF P x := bitsU_eq (hP.2.2.2.1 x hx).1 (fun s hs => (hC.2.2.2.1 x s hx hs).2)
theorem pE_g {P : GD} (hC : GC P) (hP : FQ P) {x : Nat} (hx : x < gN P) : bitsU (pEx P x) (gR P) = gE P x := bitsU_eq (hP.2.2.2.1 x hx).2 (fun s hs => (hC.2.2.2.1 x s hx hs).1)
theorem bU_s (p : Nat → Bool) (s : Nat) : bitsU p (s + 1) = if p s = true then bitsU p s ||| 1 * 2 ^ s else bitsU p s := rfl
set_option maxHeartbeats 16000000 in
theorem c_X1_fillDescents {G : GG} {j nw nx gn : Nat} {g : Nat → Sh} {c : Nat → Nat → Int} {post : Option AV → AM → Prop} {e : Nat} {P : GD} {be : Nat → Nat} {le : Nat → Nat} {hd : Nat → Nat} {ls : Nat → Nat} {st : Nat → Int} {pr : Nat → Nat} {iv : Nat → Nat} {fa : Nat → Nat} {eb : Nat → Nat} {ml : Nat → Nat} {mf : Nat → Int} {rw : Nat → Nat} {dn : Nat → Nat} {mm : Nat} (he : e = 21 ∨ e = 35) (hle : ∀ x, x < gN P → le x = gL P x) (hhd : ∀ x, x < gN P → hd x = gH P x) (hls : ∀ x, x < gN P → ls x = gA P x) (hst : ∀ x s, x < gN P → s < gR P → st (x * 5 + s) = ((gS P x s : Nat) : Int)) (hV : GV P) (hC : GC P) (hpr : ∀ x y, x < gN P → y < gN P → pr (x * 60 + y) = gX P x y) (hiv : ∀ x, x < gN P → iv x = gI P x) (hP : FQ P) (K : ∀ fa eb : Nat → Nat, (∀ x, x < gN P → fa x = gF P x ∧ eb x = gE P x) → post none (S nw nx g, 78 + gn, (em c e be le hd ls st pr iv fa eb ml mf rw dn (gR P) (gN P) mm))) : SM G (j + 2) mX1_fillDescents [vr (e)] (S nw nx g, 78 + gn, (em c e be le hd ls st pr iv fa eb ml mf rw dn (gR P) (gN P) mm)) 0 0 post := by
  have hN := GV_N hV
  have hR5 := GV_R hV
  have L : ∀ (t xx : Nat) (fa eb : Nat → Nat), xx + t = gN P → (∀ x, x < xx → fa x = gF P x ∧ eb x = gE P x) → SW G (j + 1) mX1_fillDescents 2 [some (vr (e)), some (vi (((xx : Nat) : Int))), none] [] (S nw nx g, 78 + gn, (em c e be le hd ls st pr iv fa eb ml mf rw dn (gR P) (gN P) mm)) B0 post := by
    intro t
    induction t with
    | zero =>
      intro xx fa eb hx h
      refine g_X1_fillDescents_2 he hle hhd hls hst hV hC hpr hiv ?_
      refine ⟨?_, ?_, ⟨fun q => ?_, fun q => ⟨?_, ⟨?_, ?_⟩⟩⟩⟩
      all_goals first | omega | (exfalso; omega) | exact K _ _ (fun x a => h x (by omega))
    | succ t ih =>
      intro xx fa eb hx h
      have hxx : xx < gN P := by omega
      have L26 : ∀ (u ss : Nat) (fa eb : Nat → Nat), ss + u = gR P → (∀ x, x < xx → fa x = gF P x ∧ eb x = gE P x) → fa xx = bitsU (pFx P xx) ss → eb xx = bitsU (pEx P xx) ss → SW G (j + 1) mX1_fillDescents 26 [some (vr (e)), some (vi (((xx : Nat) : Int))), some (vi (((ss : Nat) : Int)))] [] (S nw nx g, 78 + gn, (em c e be le hd ls st pr iv fa eb ml mf rw dn (gR P) (gN P) mm)) B0 post := by
        intro u
        induction u with
        | zero =>
          intro ss fa eb hs h h1 h2
          have e : ss = gR P := by omega
          subst e
          rw [pF_g hC hP hxx] at h1
          rw [pE_g hC hP hxx] at h2
          refine g_X1_fillDescents_26 he hle hhd hls hst hV hC hpr hiv ?_
          refine ⟨?_, ?_, ⟨fun q => ?_, fun q => ⟨?_, ?_, ⟨?_, ?_, ⟨?_, ?_, ⟨?_, ?_, ⟨fun q => ⟨?_, ?_, ⟨?_, ?_, ⟨?_, ?_, ⟨?_, ?_, ⟨fun q => ?_, fun q => ⟨?_, ⟨?_, ⟨?_, ?_⟩⟩⟩⟩⟩⟩⟩⟩, fun q => ⟨?_, ⟨?_, ⟨?_, ⟨?_, ?_, ⟨?_, ?_, ⟨?_, ?_, ⟨?_, ?_, ⟨fun q => ?_, fun q => ⟨?_, ⟨?_, ⟨?_, ?_⟩⟩⟩⟩⟩⟩⟩⟩⟩⟩⟩⟩⟩⟩⟩⟩⟩⟩
          all_goals first | omega | (exfalso; omega) | exact ih _ _ _ (by omega) (fun x a => by by_cases e : x = xx; (subst e; exact ⟨h1, h2⟩); exact h x (by omega))
        | succ u ihu =>
          intro ss fa eb hs h h1 h2
          have f0 := hC.1.2 ss (by omega)
          have f1 := hV.2.2.2.2.1 (ss + 1) xx (by omega) hxx
          have f2 := hV.2.2.2.1 xx ss hxx (by omega)
          have l0 := (hV.2.2.1 xx hxx).1
          have l1 := (hV.2.2.1 _ f1).1
          have l2 := (hV.2.2.1 _ f2).1
          have bF := bU_s (pFx P xx) ss
          have bE := bU_s (pEx P xx) ss
          have nxt : ∀ fa2 eb2 : Nat → Nat, (∀ x, x ≠ xx → fa2 x = fa x ∧ eb2 x = eb x) → fa2 xx = bitsU (pFx P xx) (ss + 1) → eb2 xx = bitsU (pEx P xx) (ss + 1) → SW G (j + 1) mX1_fillDescents 26 [some (vr (e)), some (vi (((xx : Nat) : Int))), some (vi (((ss + 1 : Nat) : Int)))] [] (S nw nx g, 78 + gn, (em c e be le hd ls st pr iv fa2 eb2 ml mf rw dn (gR P) (gN P) mm)) B0 post := fun fa2 eb2 q1 q2 q3 => ihu _ _ _ (by omega) (fun x a => by rw [(q1 x (by omega)).1, (q1 x (by omega)).2]; exact h x a) q2 q3
          refine g_X1_fillDescents_26 he hle hhd hls hst hV hC hpr hiv ?_
          by_cases cF : gL P (gX P (ss + 1) xx) < gL P xx
          · have pF1 : pFx P xx ss = true := decide_eq_true cF
            rw [if_pos pF1] at bF
            by_cases cE : gL P (gS P xx ss) < gL P xx
            · have pE1 : pEx P xx ss = true := decide_eq_true cE
              rw [if_pos pE1] at bE
              refine ⟨?_, ?_, ⟨fun q => ?_, fun q => ⟨?_, ?_, ⟨?_, ?_, ⟨?_, ?_, ⟨?_, ?_, ⟨fun q => ⟨?_, ?_, ⟨?_, ?_, ⟨?_, ?_, ⟨?_, ?_, ⟨fun q => ?_, fun q => ⟨?_, ⟨?_, ⟨?_, ?_⟩⟩⟩⟩⟩⟩⟩⟩, fun q => ⟨?_, ⟨?_, ⟨?_, ⟨?_, ?_, ⟨?_, ?_, ⟨?_, ?_, ⟨?_, ?_, ⟨fun q => ?_, fun q => ⟨?_, ⟨?_, ⟨?_, ?_⟩⟩⟩⟩⟩⟩⟩⟩⟩⟩⟩⟩⟩⟩⟩⟩⟩⟩
              all_goals first | omega | (exfalso; omega) | exact nxt _ _ (fun x hx => by simp [uN, hx]) (by simp [uN, h1, bF]) (by simp [uN, h2, bE])
            · have pE1 : ¬ pEx P xx ss = true := by simpa [pEx] using cE
              rw [if_neg pE1] at bE
              refine ⟨?_, ?_, ⟨fun q => ?_, fun q => ⟨?_, ?_, ⟨?_, ?_, ⟨?_, ?_, ⟨?_, ?_, ⟨fun q => ⟨?_, ?_, ⟨?_, ?_, ⟨?_, ?_, ⟨?_, ?_, ⟨fun q => ?_, fun q => ⟨?_, ⟨?_, ⟨?_, ?_⟩⟩⟩⟩⟩⟩⟩⟩, fun q => ⟨?_, ⟨?_, ⟨?_, ⟨?_, ?_, ⟨?_, ?_, ⟨?_, ?_, ⟨?_, ?_, ⟨fun q => ?_, fun q => ⟨?_, ⟨?_, ⟨?_, ?_⟩⟩⟩⟩⟩⟩⟩⟩⟩⟩⟩⟩⟩⟩⟩⟩⟩⟩
              all_goals first | omega | (exfalso; omega) | exact nxt _ _ (fun x hx => by simp [uN, hx]) (by simp [uN, h1, bF]) (by simp [h2, bE])
          · have pF1 : ¬ pFx P xx ss = true := by simpa [pFx] using cF
            rw [if_neg pF1] at bF
            by_cases cE : gL P (gS P xx ss) < gL P xx
            · have pE1 : pEx P xx ss = true := decide_eq_true cE
              rw [if_pos pE1] at bE
              refine ⟨?_, ?_, ⟨fun q => ?_, fun q => ⟨?_, ?_, ⟨?_, ?_, ⟨?_, ?_, ⟨?_, ?_, ⟨fun q => ⟨?_, ?_, ⟨?_, ?_, ⟨?_, ?_, ⟨?_, ?_, ⟨fun q => ?_, fun q => ⟨?_, ⟨?_, ⟨?_, ?_⟩⟩⟩⟩⟩⟩⟩⟩, fun q => ⟨?_, ⟨?_, ⟨?_, ⟨?_, ?_, ⟨?_, ?_, ⟨?_, ?_, ⟨?_, ?_, ⟨fun q => ?_, fun q => ⟨?_, ⟨?_, ⟨?_, ?_⟩⟩⟩⟩⟩⟩⟩⟩⟩⟩⟩⟩⟩⟩⟩⟩⟩⟩
              all_goals first | omega | (exfalso; omega) | exact nxt _ _ (fun x hx => by simp [uN, hx]) (by simp [h1, bF]) (by simp [uN, h2, bE])
            · have pE1 : ¬ pEx P xx ss = true := by simpa [pEx] using cE
              rw [if_neg pE1] at bE
              refine ⟨?_, ?_, ⟨fun q => ?_, fun q => ⟨?_, ?_, ⟨?_, ?_, ⟨?_, ?_, ⟨?_, ?_, ⟨fun q => ⟨?_, ?_, ⟨?_, ?_, ⟨?_, ?_, ⟨?_, ?_, ⟨fun q => ?_, fun q => ⟨?_, ⟨?_, ⟨?_, ?_⟩⟩⟩⟩⟩⟩⟩⟩, fun q => ⟨?_, ⟨?_, ⟨?_, ⟨?_, ?_, ⟨?_, ?_, ⟨?_, ?_, ⟨?_, ?_, ⟨fun q => ?_, fun q => ⟨?_, ⟨?_, ⟨?_, ?_⟩⟩⟩⟩⟩⟩⟩⟩⟩⟩⟩⟩⟩⟩⟩⟩⟩⟩
              all_goals first | omega | (exfalso; omega) | exact nxt _ _ (fun x hx => ⟨rfl, rfl⟩) (by simp [h1, bF]) (by simp [h2, bE])
      refine g_X1_fillDescents_2 he hle hhd hls hst hV hC hpr hiv ?_
      refine ⟨?_, ?_, ⟨fun q => ?_, fun q => ⟨?_, ⟨?_, ?_⟩⟩⟩⟩
      all_goals first | omega | (exfalso; omega) | exact L26 (gR P) 0 _ _ (by omega) (fun x a => by rw [uN, if_neg (by omega), uN, if_neg (by omega)]; exact h x a) (by rw [uN, if_pos rfl]; rfl) (by rw [uN, if_pos rfl]; rfl)
  refine sm_of wX1_fillDescents rfl (Nat.le_of_ble_eq_true rfl) ?_
  refine g_X1_fillDescents_0 he hle hhd hls hst hV hC hpr hiv ?_
  exact L (gN P) 0 fa eb (by omega) (fun x a => absurd a (by omega))

set_option maxHeartbeats 2000000 in
set_option maxRecDepth 20000 in
theorem g_X1_fillRows_0 {G : GG} {j nw nx gn : Nat} {g : Nat → Sh} {c : Nat → Nat → Int} {post : Option AV → AM → Prop} {e : Nat} (he : e = 21 ∨ e = 35) {P : GD} {be : Nat → Nat} {le : Nat → Nat} {hd : Nat → Nat} {ls : Nat → Nat} {st : Nat → Int} {pr : Nat → Nat} {iv : Nat → Nat} {fa : Nat → Nat} {eb : Nat → Nat} {ml : Nat → Nat} {mf : Nat → Int} {rw : Nat → Nat} {dn : Nat → Nat} {mm : Nat} (hle : ∀ x, x < gN P → le x = gL P x) (hhd : ∀ x, x < gN P → hd x = gH P x) (hls : ∀ x, x < gN P → ls x = gA P x) (hst : ∀ x s, x < gN P → s < gR P → st (x * 5 + s) = ((gS P x s : Nat) : Int)) (hV : GV P) (hC : GC P) (hpr : ∀ x y, x < gN P → y < gN P → pr (x * 60 + y) = gX P x y) (hiv : ∀ x, x < gN P → iv x = gI P x) (heb : ∀ x, x < gN P → eb x = gE P x)  (hv : SW G (j + 1) mX1_fillRows 9 [some (vr (e)), some (vi (1)), none] [] (S nw nx g, 78 + gn, (em c e be le hd ls st pr iv fa eb ml mf (uN rw 0 1) dn (gR P) (gN P) mm)) B0 post) :
    SW G (j + 1) mX1_fillRows 0 [some (vr (e)), none, none] [] (S nw nx g, 78 + gn, (em c e be le hd ls st pr iv fa eb ml mf rw dn (gR P) (gN P) mm)) B0 post := by
  refine sw_aload_n (dX1_fillRows.at 0 rfl) rfl rfl ?_
  refine sw_getR (dX1_fillRows.at 1 rfl) fp_X1_45 (S_e_lt he) (S_e he) rfl rfl ?_
  refine sw_iconst (dX1_fillRows.at 2 rfl) ?_
  refine sw_lconst (z := 1) (dX1_fillRows.at 3 rfl) (by decide) ?_
  refine sw_lastN 0 (dX1_fillRows.at 4 rfl) (S_ek_lt he (by decide)) (S_e_12 he) (by decide) (by decide) ?_
  refine SW.cg (M' := (S nw nx g, 78 + gn, (em c e be le hd ls st pr iv fa eb ml mf (uN rw 0 1) dn (gR P) (gN P) mm))) (congrArg (fun m => (S nw nx g, 78 + gn, m)) em_w12) ?_
  refine sw_iconst (dX1_fillRows.at 5 rfl) ?_
  refine sw_istore_n (lo' := [some (vr (e)), some (vi (1)), none]) (dX1_fillRows.at 6 rfl) rfl (by decide) rfl ?_
  exact hv

set_option maxHeartbeats 2000000 in
set_option maxRecDepth 20000 in
theorem g_X1_fillRows_9 {G : GG} {j nw nx gn : Nat} {g : Nat → Sh} {c : Nat → Nat → Int} {post : Option AV → AM → Prop} {e : Nat} (he : e = 21 ∨ e = 35) {P : GD} {be : Nat → Nat} {le : Nat → Nat} {hd : Nat → Nat} {ls : Nat → Nat} {st : Nat → Int} {pr : Nat → Nat} {iv : Nat → Nat} {fa : Nat → Nat} {eb : Nat → Nat} {ml : Nat → Nat} {mf : Nat → Int} {rw : Nat → Nat} {dn : Nat → Nat} {mm : Nat} {xx : Nat} (hle : ∀ x, x < gN P → le x = gL P x) (hhd : ∀ x, x < gN P → hd x = gH P x) (hls : ∀ x, x < gN P → ls x = gA P x) (hst : ∀ x s, x < gN P → s < gR P → st (x * 5 + s) = ((gS P x s : Nat) : Int)) (hV : GV P) (hC : GC P) (hpr : ∀ x y, x < gN P → y < gN P → pr (x * 60 + y) = gX P x y) (hiv : ∀ x, x < gN P → iv x = gI P x) (heb : ∀ x, x < gN P → eb x = gE P x)  (hv : (xx < 2147483648) ∧ (gN P < 2147483648) ∧ (((gN P ≤ xx) → post none (S nw nx g, 78 + gn, (em c e be le hd ls st pr iv fa eb ml mf rw dn (gR P) (gN P) mm))) ∧ ((¬ (gN P ≤ xx)) → (xx < 60) ∧ (SW G (j + 1) mX1_fillRows 26 [some (vr (e)), some (vi (((xx : Nat) : Int))), some (vi (0))] [] (S nw nx g, 78 + gn, (em c e be le hd ls st pr iv fa eb ml mf (uN rw xx 0) dn (gR P) (gN P) mm)) B0 post)))) :
    SW G (j + 1) mX1_fillRows 9 [some (vr (e)), some (vi (((xx : Nat) : Int))), none] [] (S nw nx g, 78 + gn, (em c e be le hd ls st pr iv fa eb ml mf rw dn (gR P) (gN P) mm)) B0 post := by
  refine sw_iload_n (dX1_fillRows.at 7 rfl) rfl rfl ?_
  refine sw_aload_n (dX1_fillRows.at 8 rfl) rfl rfl ?_
  refine sw_getIE (w := ((gN P : Nat) : Int)) (dX1_fillRows.at 9 rfl) fp_X1_59 (S_e_lt he) (S_e he) rfl em_f14 ?_
  refine sw_icmpN_ge xx (gN P) (tgt := 80) (dX1_fillRows.at 10 rfl) (by decide) hv.1 hv.2.1 (fun q => ?_) (fun q => ?_)
  · replace hv := hv.2.2.1 q
    exact sw_vret (dX1_fillRows.at 48 rfl) rfl (Nat.le_refl _) (Nat.le_refl _) hv
  · replace hv := hv.2.2.2 q
    refine sw_aload_n (dX1_fillRows.at 11 rfl) rfl rfl ?_
    refine sw_getR (dX1_fillRows.at 12 rfl) fp_X1_45 (S_e_lt he) (S_e he) rfl rfl ?_
    refine sw_iload_n (dX1_fillRows.at 13 rfl) rfl rfl ?_
    refine sw_lconst (z := 0) (dX1_fillRows.at 14 rfl) (by decide) ?_
    refine sw_lastN xx (dX1_fillRows.at 15 rfl) (S_ek_lt he (by decide)) (S_e_12 he) (by decide) hv.1 ?_
    refine SW.cg (M' := (S nw nx g, 78 + gn, (em c e be le hd ls st pr iv fa eb ml mf (uN rw xx 0) dn (gR P) (gN P) mm))) (congrArg (fun m => (S nw nx g, 78 + gn, m)) em_w12) ?_
    replace hv := hv.2
    refine sw_iconst (dX1_fillRows.at 16 rfl) ?_
    refine sw_istore_n (lo' := [some (vr (e)), some (vi (((xx : Nat) : Int))), some (vi (0))]) (dX1_fillRows.at 17 rfl) rfl (by decide) rfl ?_
    exact hv

set_option maxHeartbeats 2000000 in
set_option maxRecDepth 20000 in
theorem g_X1_fillRows_26 {G : GG} {j nw nx gn : Nat} {g : Nat → Sh} {c : Nat → Nat → Int} {post : Option AV → AM → Prop} {e : Nat} (he : e = 21 ∨ e = 35) {P : GD} {be : Nat → Nat} {le : Nat → Nat} {hd : Nat → Nat} {ls : Nat → Nat} {st : Nat → Int} {pr : Nat → Nat} {iv : Nat → Nat} {fa : Nat → Nat} {eb : Nat → Nat} {ml : Nat → Nat} {mf : Nat → Int} {rw : Nat → Nat} {dn : Nat → Nat} {mm : Nat} {xx : Nat} {ss : Nat} (hle : ∀ x, x < gN P → le x = gL P x) (hhd : ∀ x, x < gN P → hd x = gH P x) (hls : ∀ x, x < gN P → ls x = gA P x) (hst : ∀ x s, x < gN P → s < gR P → st (x * 5 + s) = ((gS P x s : Nat) : Int)) (hV : GV P) (hC : GC P) (hpr : ∀ x y, x < gN P → y < gN P → pr (x * 60 + y) = gX P x y) (hiv : ∀ x, x < gN P → iv x = gI P x) (heb : ∀ x, x < gN P → eb x = gE P x)  (hv : (ss < 2147483648) ∧ (gR P < 2147483648) ∧ (((gR P ≤ ss) → SW G (j + 1) mX1_fillRows 9 [some (vr (e)), some (vi (((xx + 1 : Nat) : Int))), none] [] (S nw nx g, 78 + gn, (em c e be le hd ls st pr iv fa eb ml mf rw dn (gR P) (gN P) mm)) B0 post) ∧ ((¬ (gR P ≤ ss)) → (xx < gN P) ∧ (xx < 60) ∧ ((gE P xx < 2147483648) ∧ (((gE P xx) < 9223372036854775808) ∧ (ss < 64) ∧ (((((gE P xx).testBit ss) = false) → SW G (j + 1) mX1_fillRows 26 [some (vr (e)), some (vi (((xx : Nat) : Int))), some (vi (((ss + 1 : Nat) : Int)))] [] (S nw nx g, 78 + gn, (em c e be le hd ls st pr iv fa eb ml mf rw dn (gR P) (gN P) mm)) B0 post) ∧ ((((gE P xx).testBit ss) = true) → (xx < 60) ∧ ((xx < gN P) ∧ (ss < gR P) ∧ ((gS P xx ss < 60) ∧ ((xx < 60) ∧ (SW G (j + 1) mX1_fillRows 26 [some (vr (e)), some (vi (((xx : Nat) : Int))), some (vi (((ss + 1 : Nat) : Int)))] [] (S nw nx g, 78 + gn, (em c e be le hd ls st pr iv fa eb ml mf (uN rw xx ((rw xx) + (rw (gS P xx ss)))) dn (gR P) (gN P) mm)) B0 post))))))))))) :
    SW G (j + 1) mX1_fillRows 26 [some (vr (e)), some (vi (((xx : Nat) : Int))), some (vi (((ss : Nat) : Int)))] [] (S nw nx g, 78 + gn, (em c e be le hd ls st pr iv fa eb ml mf rw dn (gR P) (gN P) mm)) B0 post := by
  refine sw_iload_n (dX1_fillRows.at 18 rfl) rfl rfl ?_
  refine sw_aload_n (dX1_fillRows.at 19 rfl) rfl rfl ?_
  refine sw_getIE (w := ((gR P : Nat) : Int)) (dX1_fillRows.at 20 rfl) fp_X1_58 (S_e_lt he) (S_e he) rfl em_f13 ?_
  refine sw_icmpN_ge ss (gR P) (tgt := 74) (dX1_fillRows.at 21 rfl) (by decide) hv.1 hv.2.1 (fun q => ?_) (fun q => ?_)
  · replace hv := hv.2.2.1 q
    refine sw_iinc (lo' := [some (vr (e)), some (vi (((xx + 1 : Nat) : Int))), some (vi (((ss : Nat) : Int)))]) (dX1_fillRows.at 46 rfl) rfl (by decide) rfl ?_
    refine sw_goto (tgt := 9) (dX1_fillRows.at 47 rfl) (by decide) ?_
    exact sw_mask (bs := [true, true, false]) hv
  · replace hv := hv.2.2.2 q
    refine sw_aload_n (dX1_fillRows.at 22 rfl) rfl rfl ?_
    refine sw_getR (dX1_fillRows.at 23 rfl) fp_X1_36 (S_e_lt he) (S_e he) rfl rfl ?_
    refine sw_iload_n (dX1_fillRows.at 24 rfl) rfl rfl ?_
    refine sw_ialdN xx (w := ((gE P xx : Nat) : Int)) (dX1_fillRows.at 25 rfl) (S_ek_lt he (by decide)) (S_e_9 he) (by decide) hv.2.1 (em_r9.trans (congrArg Int.ofNat (heb _ hv.1))) ?_
    replace hv := hv.2.2
    refine sw_i2l (dX1_fillRows.at 26 rfl) (nrng hv.1) ?_
    replace hv := hv.2
    refine sw_iload_n (dX1_fillRows.at 27 rfl) rfl rfl ?_
    refine sw_callN (B' := B0) (As := [vl (((gE P xx : Nat) : Int)), vi (((ss : Nat) : Int))]) (mc := 0) (ms := 0) (dX1_fillRows.at 28 rfl) lk_X1_113 rfl rfl (Nat.le_of_ble_eq_true rfl) rfl (Nat.le_refl _) (Nat.le_refl _) ?_
    refine c_X8_hasBit (s := (gE P xx)) (i := ss) (j := j + 0) hv.1 hv.2.1 ?_
    replace hv := hv.2.2
    refine sw_if_eq (tgt := 68) (dX1_fillRows.at 29 rfl) (by decide) (bz_rng _) (fun q => ?_) (fun q => ?_)
    · replace hv := hv.1 (bz_0 q)
      refine sw_iinc (lo' := [some (vr (e)), some (vi (((xx : Nat) : Int))), some (vi (((ss + 1 : Nat) : Int)))]) (dX1_fillRows.at 44 rfl) rfl (by decide) rfl ?_
      refine sw_goto (tgt := 26) (dX1_fillRows.at 45 rfl) (by decide) ?_
      exact hv
    · replace hv := hv.2 (bz_n0 q)
      refine sw_aload_n (dX1_fillRows.at 30 rfl) rfl rfl ?_
      refine sw_getR (dX1_fillRows.at 31 rfl) fp_X1_45 (S_e_lt he) (S_e he) rfl rfl ?_
      refine sw_iload_n (dX1_fillRows.at 32 rfl) rfl rfl ?_
      refine sw_dup2 (dX1_fillRows.at 33 rfl) (fun _ h => by cases h) (fun _ h => by cases h) ?_
      refine sw_laldN xx (w := ((rw xx : Nat) : Int)) (dX1_fillRows.at 34 rfl) (S_ek_lt he (by decide)) (S_e_12 he) (by decide) hv.1 em_r12 ?_
      replace hv := hv.2
      refine sw_aload_n (dX1_fillRows.at 35 rfl) rfl rfl ?_
      refine sw_getR (dX1_fillRows.at 36 rfl) fp_X1_45 (S_e_lt he) (S_e he) rfl rfl ?_
      refine sw_aload_n (dX1_fillRows.at 37 rfl) rfl rfl ?_
      refine sw_iload_n (dX1_fillRows.at 38 rfl) rfl rfl ?_
      refine sw_iload_n (dX1_fillRows.at 39 rfl) rfl rfl ?_
      refine sw_callV (B' := B0) (As := [vi (((xx : Nat) : Int)), vi (((ss : Nat) : Int))]) (mc := 0) (ms := 0) (dX1_fillRows.at 40 rfl) lk_X1_92 (S_e_lt he) (S_e he) rfl rfl (Nat.le_of_ble_eq_true rfl) rfl (Nat.le_refl _) (Nat.le_refl _) ?_
      refine c_X1_byN (x := xx) (s := ss) (j := j + 0) he hst hV hv.1 hv.2.1 ?_
      replace hv := hv.2.2
      refine sw_laldN (gS P xx ss) (w := ((rw (gS P xx ss) : Nat) : Int)) (dX1_fillRows.at 41 rfl) (S_ek_lt he (by decide)) (S_e_12 he) (by decide) hv.1 em_r12 ?_
      replace hv := hv.2
      refine sw_ladd (dX1_fillRows.at 42 rfl) ?_
      refine sw_topL (y := (((rw xx) + (rw (gS P xx ss)) : Nat) : Int)) (by first | rfl | (congr 1)) ?_
      refine sw_lastN xx (dX1_fillRows.at 43 rfl) (S_ek_lt he (by decide)) (S_e_12 he) (by decide) hv.1 ?_
      refine SW.cg (M' := (S nw nx g, 78 + gn, (em c e be le hd ls st pr iv fa eb ml mf (uN rw xx ((rw xx) + (rw (gS P xx ss)))) dn (gR P) (gN P) mm))) (congrArg (fun m => (S nw nx g, 78 + gn, m)) em_w12) ?_
      replace hv := hv.2
      refine sw_iinc (lo' := [some (vr (e)), some (vi (((xx : Nat) : Int))), some (vi (((ss + 1 : Nat) : Int)))]) (dX1_fillRows.at 44 rfl) rfl (by decide) rfl ?_
      refine sw_goto (tgt := 26) (dX1_fillRows.at 45 rfl) (by decide) ?_
      exact hv

theorem rwF_le {P : GD} (hV : GV P) {x : Nat} (hx : x < gN P) : ∀ k s a, s + k = gR P → rwF P x k s a ≤ a + 240 * k := by
  intro k
  induction k with
  | zero => intro s a _; show a ≤ a + 240 * 0; omega
  | succ k ih =>
    intro s a hs
    have h1 := (hV.2.2.1 _ (hV.2.2.2.1 x s hx (by omega))).2.2.2.2.2.2.2.1
    unfold rwF
    refine Nat.le_trans (ih (s + 1) _ (by omega)) ?_
    split <;> omega
set_option maxHeartbeats 16000000 in
theorem c_X1_fillRows {G : GG} {j nw nx gn : Nat} {g : Nat → Sh} {c : Nat → Nat → Int} {post : Option AV → AM → Prop} {e : Nat} {P : GD} {be : Nat → Nat} {le : Nat → Nat} {hd : Nat → Nat} {ls : Nat → Nat} {st : Nat → Int} {pr : Nat → Nat} {iv : Nat → Nat} {fa : Nat → Nat} {eb : Nat → Nat} {ml : Nat → Nat} {mf : Nat → Int} {rw : Nat → Nat} {dn : Nat → Nat} {mm : Nat} (he : e = 21 ∨ e = 35) (hle : ∀ x, x < gN P → le x = gL P x) (hhd : ∀ x, x < gN P → hd x = gH P x) (hls : ∀ x, x < gN P → ls x = gA P x) (hst : ∀ x s, x < gN P → s < gR P → st (x * 5 + s) = ((gS P x s : Nat) : Int)) (hV : GV P) (hC : GC P) (hpr : ∀ x y, x < gN P → y < gN P → pr (x * 60 + y) = gX P x y) (hiv : ∀ x, x < gN P → iv x = gI P x) (heb : ∀ x, x < gN P → eb x = gE P x) (hP : FQ P) (hO : FO P) (h0 : 0 < gN P) (K : ∀ rw : Nat → Nat, (∀ x, x < gN P → rw x = gW P x) → post none (S nw nx g, 78 + gn, (em c e be le hd ls st pr iv fa eb ml mf rw dn (gR P) (gN P) mm))) : SM G (j + 2) mX1_fillRows [vr (e)] (S nw nx g, 78 + gn, (em c e be le hd ls st pr iv fa eb ml mf rw dn (gR P) (gN P) mm)) 0 0 post := by
  have hN := GV_N hV
  have hR5 := GV_R hV
  have L : ∀ (t xx : Nat) (rw : Nat → Nat), xx + t = gN P → 0 < xx → (∀ x, x < xx → rw x = gW P x) → SW G (j + 1) mX1_fillRows 9 [some (vr (e)), some (vi (((xx : Nat) : Int))), none] [] (S nw nx g, 78 + gn, (em c e be le hd ls st pr iv fa eb ml mf rw dn (gR P) (gN P) mm)) B0 post := by
    intro t
    induction t with
    | zero =>
      intro xx rr hx x0 h
      refine g_X1_fillRows_9 he hle hhd hls hst hV hC hpr hiv heb ?_
      refine ⟨?_, ?_, ⟨fun q => ?_, fun q => ⟨?_, ?_⟩⟩⟩
      all_goals first | omega | (exfalso; omega) | exact K _ (fun x a => h x (by omega))
    | succ t ih =>
      intro xx rr hx x0 h
      have hxx : xx < gN P := by omega
      have L26 : ∀ (u ss aa : Nat) (rw : Nat → Nat), ss + u = gR P → (∀ x, x < xx → rw x = gW P x) → rw xx = aa → aa ≤ 240 * ss → rwF P xx u ss aa = gW P xx → SW G (j + 1) mX1_fillRows 26 [some (vr (e)), some (vi (((xx : Nat) : Int))), some (vi (((ss : Nat) : Int)))] [] (S nw nx g, 78 + gn, (em c e be le hd ls st pr iv fa eb ml mf rw dn (gR P) (gN P) mm)) B0 post := by
        intro u
        induction u with
        | zero =>
          intro ss aa rr hs h h1 h3 h2
          refine g_X1_fillRows_26 he hle hhd hls hst hV hC hpr hiv heb ?_
          refine ⟨?_, ?_, ⟨fun q => ?_, fun q => ⟨?_, ?_, ⟨?_, ⟨?_, ?_, ⟨fun q => ?_, fun q => ⟨?_, ⟨?_, ?_, ⟨?_, ⟨?_, ?_⟩⟩⟩⟩⟩⟩⟩⟩⟩⟩
          all_goals first | omega | (exfalso; omega) | exact ih _ _ (by omega) (by omega) (fun x a => by by_cases e : x = xx; (subst e; exact h1.trans h2); exact h x (by omega))
        | succ u ihu =>
          intro ss aa rr hs h h1 h3 h2
          have f1 := hO.2.1 xx ss hxx (by omega)
          have f2 := hV.2.2.2.1 xx ss hxx (by omega)
          have f3 := (hV.2.2.1 _ f2).2.2.2.2.2.2.2.1
          have f4 := (hC.2.2.2.1 xx ss hxx (by omega)).1
          have f5 := (hV.2.2.1 xx hxx).2.2.2.2.2.1
          simp only [rwF] at h2
          refine g_X1_fillRows_26 he hle hhd hls hst hV hC hpr hiv heb ?_
          cases hb : (gE P xx).testBit ss with
          | false =>
            rw [hb, if_neg (by decide)] at h2
            refine ⟨?_, ?_, ⟨fun q => ?_, fun q => ⟨?_, ?_, ⟨?_, ⟨?_, ?_, ⟨fun q => ?_, fun q => ⟨?_, ⟨?_, ?_, ⟨?_, ⟨?_, ?_⟩⟩⟩⟩⟩⟩⟩⟩⟩⟩
            all_goals first | omega | (exfalso; omega) | exact ihu _ _ _ (by omega) h h1 (by omega) h2 | (exfalso; rw [hb] at *; contradiction)
          | true =>
            rw [hb, if_pos rfl] at h2
            have hlt : gS P xx ss < xx := by
              rw [hb] at f4
              have f6 := of_decide_eq_true f4.symm
              have f7 := f1.1
              refine Decidable.byContradiction fun q => ?_
              have := f1.2.1 (by omega)
              omega
            have f8 := h (gS P xx ss) hlt
            rw [f8]
            refine ⟨?_, ?_, ⟨fun q => ?_, fun q => ⟨?_, ?_, ⟨?_, ⟨?_, ?_, ⟨fun q => ?_, fun q => ⟨?_, ⟨?_, ?_, ⟨?_, ⟨?_, ?_⟩⟩⟩⟩⟩⟩⟩⟩⟩⟩
            all_goals first | omega | (exfalso; omega) | (exfalso; rw [hb] at *; contradiction) | skip
            refine ihu _ _ _ (by omega) (fun x a => by rw [uN, if_neg (by omega)]; exact h x a) (by rw [uN, if_pos rfl, h1]) (by omega) h2
      refine g_X1_fillRows_9 he hle hhd hls hst hV hC hpr hiv heb ?_
      refine ⟨?_, ?_, ⟨fun q => ?_, fun q => ⟨?_, ?_⟩⟩⟩
      all_goals first | omega | (exfalso; omega) | exact L26 (gR P) 0 0 _ (by omega) (fun x a => by rw [uN, if_neg (by omega)]; exact h x a) (by rw [uN, if_pos rfl]) (by omega) (hP.2.1.2 xx x0 hxx)
  refine sm_of wX1_fillRows rfl (Nat.le_of_ble_eq_true rfl) ?_
  refine g_X1_fillRows_0 he hle hhd hls hst hV hC hpr hiv heb ?_
  refine ?_
  all_goals first | omega | decide | exact L (gN P - 1) 1 _ (by omega) (by omega) (fun x a => by have e : x = 0 := (by omega); subst e; rw [uN, if_pos rfl]; exact hP.2.1.1.symm)

