set_option maxHeartbeats 2000000 in
set_option maxRecDepth 20000 in
theorem g_X1_spreadMirrors_0 {G : GG} {j nw nx gn : Nat} {g : Nat → Sh} {c : Nat → Nat → Int} {post : Option AV → AM → Prop} {e : Nat} {lv : Nat} (he : e = 21 ∨ e = 35) {P : GD} {be : Nat → Nat} {le : Nat → Nat} {hd : Nat → Nat} {ls : Nat → Nat} {st : Nat → Int} {pr : Nat → Nat} {iv : Nat → Nat} {fa : Nat → Nat} {eb : Nat → Nat} {ml : Nat → Nat} {mf : Nat → Int} {rw : Nat → Nat} {dn : Nat → Nat} (hle : ∀ x, x < gN P → le x = gL P x) (hhd : ∀ x, x < gN P → hd x = gH P x) (hls : ∀ x, x < gN P → ls x = gA P x) (hst : ∀ x s, x < gN P → s < gR P → st (x * 5 + s) = ((gS P x s : Nat) : Int)) (hV : GV P) (hC : GC P) (hpr : ∀ x y, x < gN P → y < gN P → pr (x * 60 + y) = gX P x y) (hiv : ∀ x, x < gN P → iv x = gI P x) (hml : ∀ i, i < gM P → ml i = gT P i)  (hv : SW G (j + 1) mX1_spreadMirrors 4 [some (vr (e)), some (vi (((lv : Nat) : Int))), some (vi (0)), some (vi (0)), none, none] [] (S nw nx g, 78 + gn, (em c e be le hd ls st pr iv fa eb ml mf rw dn (gR P) (gN P) (gM P))) B0 post) :
    SW G (j + 1) mX1_spreadMirrors 0 [some (vr (e)), some (vi (((lv : Nat) : Int))), none, none, none, none] [] (S nw nx g, 78 + gn, (em c e be le hd ls st pr iv fa eb ml mf rw dn (gR P) (gN P) (gM P))) B0 post := by
  refine sw_iconst (dX1_spreadMirrors.at 0 rfl) ?_
  refine sw_istore_n (lo' := [some (vr (e)), some (vi (((lv : Nat) : Int))), some (vi (0)), none, none, none]) (dX1_spreadMirrors.at 1 rfl) rfl (by decide) rfl ?_
  refine sw_iconst (dX1_spreadMirrors.at 2 rfl) ?_
  refine sw_istore_n (lo' := [some (vr (e)), some (vi (((lv : Nat) : Int))), some (vi (0)), some (vi (0)), none, none]) (dX1_spreadMirrors.at 3 rfl) rfl (by decide) rfl ?_
  exact hv

set_option maxHeartbeats 2000000 in
set_option maxRecDepth 20000 in
theorem g_X1_spreadMirrors_4 {G : GG} {j nw nx gn : Nat} {g : Nat → Sh} {c : Nat → Nat → Int} {post : Option AV → AM → Prop} {e : Nat} {lv : Nat} (he : e = 21 ∨ e = 35) {P : GD} {be : Nat → Nat} {le : Nat → Nat} {hd : Nat → Nat} {ls : Nat → Nat} {st : Nat → Int} {pr : Nat → Nat} {iv : Nat → Nat} {fa : Nat → Nat} {eb : Nat → Nat} {ml : Nat → Nat} {mf : Nat → Int} {rw : Nat → Nat} {dn : Nat → Nat} {xx : Nat} {ff : Nat} (hle : ∀ x, x < gN P → le x = gL P x) (hhd : ∀ x, x < gN P → hd x = gH P x) (hls : ∀ x, x < gN P → ls x = gA P x) (hst : ∀ x s, x < gN P → s < gR P → st (x * 5 + s) = ((gS P x s : Nat) : Int)) (hV : GV P) (hC : GC P) (hpr : ∀ x y, x < gN P → y < gN P → pr (x * 60 + y) = gX P x y) (hiv : ∀ x, x < gN P → iv x = gI P x) (hml : ∀ i, i < gM P → ml i = gT P i)  (hv : (xx < 2147483648) ∧ (gN P < 2147483648) ∧ (((gN P ≤ xx) → (((ff : Nat) : Int) = 0 ∨ ((ff : Nat) : Int) = 1) ∧ post (some (vi (((ff : Nat) : Int)))) (S nw nx g, 78 + gn, (em c e be le hd ls st pr iv fa eb ml mf rw dn (gR P) (gN P) (gM P)))) ∧ ((¬ (gN P ≤ xx)) → SW G (j + 1) mX1_spreadMirrors 15 [some (vr (e)), some (vi (((lv : Nat) : Int))), some (vi (((ff : Nat) : Int))), some (vi (((xx : Nat) : Int))), some (vi (0)), none] [] (S nw nx g, 78 + gn, (em c e be le hd ls st pr iv fa eb ml mf rw dn (gR P) (gN P) (gM P))) B0 post))) :
    SW G (j + 1) mX1_spreadMirrors 4 [some (vr (e)), some (vi (((lv : Nat) : Int))), some (vi (((ff : Nat) : Int))), some (vi (((xx : Nat) : Int))), none, none] [] (S nw nx g, 78 + gn, (em c e be le hd ls st pr iv fa eb ml mf rw dn (gR P) (gN P) (gM P))) B0 post := by
  refine sw_iload_n (dX1_spreadMirrors.at 4 rfl) rfl rfl ?_
  refine sw_aload_n (dX1_spreadMirrors.at 5 rfl) rfl rfl ?_
  refine sw_getIE (w := ((gN P : Nat) : Int)) (dX1_spreadMirrors.at 6 rfl) fp_X1_59 (S_e_lt he) (S_e he) rfl em_f14 ?_
  refine sw_icmpN_ge xx (gN P) (tgt := 83) (dX1_spreadMirrors.at 7 rfl) (by decide) hv.1 hv.2.1 (fun q => ?_) (fun q => ?_)
  · replace hv := hv.2.2.1 q
    refine sw_iload_n (dX1_spreadMirrors.at 47 rfl) rfl rfl ?_
    exact sw_zret (dX1_spreadMirrors.at 48 rfl) rfl hv.1 (Nat.le_refl _) (Nat.le_refl _) hv.2
  · replace hv := hv.2.2.2 q
    refine sw_iconst (dX1_spreadMirrors.at 8 rfl) ?_
    refine sw_istore (lo' := [some (vr (e)), some (vi (((lv : Nat) : Int))), some (vi (((ff : Nat) : Int))), some (vi (((xx : Nat) : Int))), some (vi (0)), none]) (dX1_spreadMirrors.at 9 rfl) (by decide) rfl ?_
    exact hv

set_option maxHeartbeats 2000000 in
set_option maxRecDepth 20000 in
theorem g_X1_spreadMirrors_15 {G : GG} {j nw nx gn : Nat} {g : Nat → Sh} {c : Nat → Nat → Int} {post : Option AV → AM → Prop} {e : Nat} {lv : Nat} (he : e = 21 ∨ e = 35) {P : GD} {be : Nat → Nat} {le : Nat → Nat} {hd : Nat → Nat} {ls : Nat → Nat} {st : Nat → Int} {pr : Nat → Nat} {iv : Nat → Nat} {fa : Nat → Nat} {eb : Nat → Nat} {ml : Nat → Nat} {mf : Nat → Int} {rw : Nat → Nat} {dn : Nat → Nat} {xx : Nat} {ii : Nat} {ff : Nat} (hle : ∀ x, x < gN P → le x = gL P x) (hhd : ∀ x, x < gN P → hd x = gH P x) (hls : ∀ x, x < gN P → ls x = gA P x) (hst : ∀ x s, x < gN P → s < gR P → st (x * 5 + s) = ((gS P x s : Nat) : Int)) (hV : GV P) (hC : GC P) (hpr : ∀ x y, x < gN P → y < gN P → pr (x * 60 + y) = gX P x y) (hiv : ∀ x, x < gN P → iv x = gI P x) (hml : ∀ i, i < gM P → ml i = gT P i)  (hv : (ii < 2147483648) ∧ (gM P < 2147483648) ∧ (((gM P ≤ ii) → SW G (j + 1) mX1_spreadMirrors 4 [some (vr (e)), some (vi (((lv : Nat) : Int))), some (vi (((ff : Nat) : Int))), some (vi (((xx + 1 : Nat) : Int))), none, none] [] (S nw nx g, 78 + gn, (em c e be le hd ls st pr iv fa eb ml mf rw dn (gR P) (gN P) (gM P))) B0 post) ∧ ((¬ (gM P ≤ ii)) → (xx < 60) ∧ ((-2147483648 ≤ mf xx ∧ mf xx < 2147483648) ∧ (lv < 2147483648) ∧ (((mf xx ≠ ((lv : Nat) : Int)) → SW G (j + 1) mX1_spreadMirrors 4 [some (vr (e)), some (vi (((lv : Nat) : Int))), some (vi (((ff : Nat) : Int))), some (vi (((xx + 1 : Nat) : Int))), none, none] [] (S nw nx g, 78 + gn, (em c e be le hd ls st pr iv fa eb ml mf rw dn (gR P) (gN P) (gM P))) B0 post) ∧ ((mf xx = ((lv : Nat) : Int)) → (ii < gM P) ∧ (ii < 60) ∧ ((gT P ii < gN P) ∧ (xx < gN P) ∧ ((gX P (gT P ii) xx < 60) ∧ ((-2147483648 ≤ mf (gX P (gT P ii) xx) ∧ mf (gX P (gT P ii) xx) < 2147483648) ∧ (((mf (gX P (gT P ii) xx) ≠ (-1)) → SW G (j + 1) mX1_spreadMirrors 15 [some (vr (e)), some (vi (((lv : Nat) : Int))), some (vi (((ff : Nat) : Int))), some (vi (((xx : Nat) : Int))), some (vi (((ii + 1 : Nat) : Int))), none] [] (S nw nx g, 78 + gn, (em c e be le hd ls st pr iv fa eb ml mf rw dn (gR P) (gN P) (gM P))) B0 post) ∧ ((mf (gX P (gT P ii) xx) = (-1)) → (gX P (gT P ii) xx < 60) ∧ (SW G (j + 1) mX1_spreadMirrors 15 [some (vr (e)), some (vi (((lv : Nat) : Int))), some (vi (1)), some (vi (((xx : Nat) : Int))), some (vi (((ii + 1 : Nat) : Int))), none] [] (S nw nx g, 78 + gn, (em c e be le hd ls st pr iv fa eb ml (u1 mf (gX P (gT P ii) xx) ((lv + 1 : Nat) : Int)) rw dn (gR P) (gN P) (gM P))) B0 post)))))))))))) :
    SW G (j + 1) mX1_spreadMirrors 15 [some (vr (e)), some (vi (((lv : Nat) : Int))), some (vi (((ff : Nat) : Int))), some (vi (((xx : Nat) : Int))), some (vi (((ii : Nat) : Int))), none] [] (S nw nx g, 78 + gn, (em c e be le hd ls st pr iv fa eb ml mf rw dn (gR P) (gN P) (gM P))) B0 post := by
  refine sw_iload (dX1_spreadMirrors.at 10 rfl) rfl ?_
  refine sw_aload_n (dX1_spreadMirrors.at 11 rfl) rfl rfl ?_
  refine sw_getIE (w := ((gM P : Nat) : Int)) (dX1_spreadMirrors.at 12 rfl) fp_X1_62 (S_e_lt he) (S_e he) rfl em_f15 ?_
  refine sw_icmpN_ge ii (gM P) (tgt := 77) (dX1_spreadMirrors.at 13 rfl) (by decide) hv.1 hv.2.1 (fun q => ?_) (fun q => ?_)
  · replace hv := hv.2.2.1 q
    refine sw_iinc (lo' := [some (vr (e)), some (vi (((lv : Nat) : Int))), some (vi (((ff : Nat) : Int))), some (vi (((xx + 1 : Nat) : Int))), some (vi (((ii : Nat) : Int))), none]) (dX1_spreadMirrors.at 45 rfl) rfl (by decide) rfl ?_
    refine sw_goto (tgt := 4) (dX1_spreadMirrors.at 46 rfl) (by decide) ?_
    exact sw_mask (bs := [true, true, true, true, false, false]) hv
  · replace hv := hv.2.2.2 q
    refine sw_aload_n (dX1_spreadMirrors.at 14 rfl) rfl rfl ?_
    refine sw_getR (dX1_spreadMirrors.at 15 rfl) fp_X1_42 (S_e_lt he) (S_e he) rfl rfl ?_
    refine sw_iload_n (dX1_spreadMirrors.at 16 rfl) rfl rfl ?_
    refine sw_ialdN xx (w := mf xx) (dX1_spreadMirrors.at 17 rfl) (S_ek_lt he (by decide)) (S_e_11 he) (by decide) hv.1 em_r11 ?_
    replace hv := hv.2
    refine sw_iload_n (dX1_spreadMirrors.at 18 rfl) rfl rfl ?_
    refine sw_icmp_ne (tgt := 77) (dX1_spreadMirrors.at 19 rfl) (by decide) hv.1 (nrng hv.2.1) (fun q => ?_) (fun q => ?_)
    · replace hv := hv.2.2.1 q
      refine sw_iinc (lo' := [some (vr (e)), some (vi (((lv : Nat) : Int))), some (vi (((ff : Nat) : Int))), some (vi (((xx + 1 : Nat) : Int))), some (vi (((ii : Nat) : Int))), none]) (dX1_spreadMirrors.at 45 rfl) rfl (by decide) rfl ?_
      refine sw_goto (tgt := 4) (dX1_spreadMirrors.at 46 rfl) (by decide) ?_
      exact sw_mask (bs := [true, true, true, true, false, false]) hv
    · replace hv := hv.2.2.2 q
      refine sw_aload_n (dX1_spreadMirrors.at 20 rfl) rfl rfl ?_
      refine sw_aload_n (dX1_spreadMirrors.at 21 rfl) rfl rfl ?_
      refine sw_getR (dX1_spreadMirrors.at 22 rfl) fp_X1_39 (S_e_lt he) (S_e he) rfl rfl ?_
      refine sw_iload (dX1_spreadMirrors.at 23 rfl) rfl ?_
      refine sw_ialdN ii (w := ((gT P ii : Nat) : Int)) (dX1_spreadMirrors.at 24 rfl) (S_ek_lt he (by decide)) (S_e_10 he) (by decide) hv.2.1 (em_r10.trans (congrArg Int.ofNat (hml _ hv.1))) ?_
      replace hv := hv.2.2
      refine sw_iload_n (dX1_spreadMirrors.at 25 rfl) rfl rfl ?_
      refine sw_callV (B' := B0) (As := [vi (((gT P ii : Nat) : Int)), vi (((xx : Nat) : Int))]) (mc := 0) (ms := 0) (dX1_spreadMirrors.at 26 rfl) lk_X1_110 (S_e_lt he) (S_e he) rfl rfl (Nat.le_of_ble_eq_true rfl) rfl (Nat.le_refl _) (Nat.le_refl _) ?_
      refine c_X1_mulN (x := (gT P ii)) (y := xx) (j := j + 0) he hpr hV hv.1 hv.2.1 ?_
      replace hv := hv.2.2
      refine sw_istore (lo' := [some (vr (e)), some (vi (((lv : Nat) : Int))), some (vi (((ff : Nat) : Int))), some (vi (((xx : Nat) : Int))), some (vi (((ii : Nat) : Int))), some (vi (((gX P (gT P ii) xx : Nat) : Int)))]) (dX1_spreadMirrors.at 27 rfl) (by decide) rfl ?_
      refine sw_aload_n (dX1_spreadMirrors.at 28 rfl) rfl rfl ?_
      refine sw_getR (dX1_spreadMirrors.at 29 rfl) fp_X1_42 (S_e_lt he) (S_e he) rfl rfl ?_
      refine sw_iload (dX1_spreadMirrors.at 30 rfl) rfl ?_
      refine sw_ialdN (gX P (gT P ii) xx) (w := mf (gX P (gT P ii) xx)) (dX1_spreadMirrors.at 31 rfl) (S_ek_lt he (by decide)) (S_e_11 he) (by decide) hv.1 em_r11 ?_
      replace hv := hv.2
      refine sw_iconst (dX1_spreadMirrors.at 32 rfl) ?_
      refine sw_icmp_ne (tgt := 71) (dX1_spreadMirrors.at 33 rfl) (by decide) hv.1 (by decide) (fun q => ?_) (fun q => ?_)
      · replace hv := hv.2.1 q
        refine sw_iinc (lo' := [some (vr (e)), some (vi (((lv : Nat) : Int))), some (vi (((ff : Nat) : Int))), some (vi (((xx : Nat) : Int))), some (vi (((ii + 1 : Nat) : Int))), some (vi (((gX P (gT P ii) xx : Nat) : Int)))]) (dX1_spreadMirrors.at 43 rfl) rfl (by decide) rfl ?_
        refine sw_goto (tgt := 15) (dX1_spreadMirrors.at 44 rfl) (by decide) ?_
        exact sw_mask (bs := [true, true, true, true, true, false]) hv
      · replace hv := hv.2.2 q
        refine sw_aload_n (dX1_spreadMirrors.at 34 rfl) rfl rfl ?_
        refine sw_getR (dX1_spreadMirrors.at 35 rfl) fp_X1_42 (S_e_lt he) (S_e he) rfl rfl ?_
        refine sw_iload (dX1_spreadMirrors.at 36 rfl) rfl ?_
        refine sw_iload_n (dX1_spreadMirrors.at 37 rfl) rfl rfl ?_
        refine sw_iconst (dX1_spreadMirrors.at 38 rfl) ?_
        refine sw_iadd (dX1_spreadMirrors.at 39 rfl) ?_
        refine sw_topI (y := ((lv + 1 : Nat) : Int)) (by first | rfl | (congr 1)) ?_
        refine sw_iastN (gX P (gT P ii) xx) (dX1_spreadMirrors.at 40 rfl) (S_ek_lt he (by decide)) (S_e_11 he) (by decide) hv.1 ?_
        refine SW.cg (M' := (S nw nx g, 78 + gn, (em c e be le hd ls st pr iv fa eb ml (u1 mf (gX P (gT P ii) xx) ((lv + 1 : Nat) : Int)) rw dn (gR P) (gN P) (gM P)))) (congrArg (fun m => (S nw nx g, 78 + gn, m)) em_w11) ?_
        replace hv := hv.2
        refine sw_iconst (dX1_spreadMirrors.at 41 rfl) ?_
        refine sw_istore_n (lo' := [some (vr (e)), some (vi (((lv : Nat) : Int))), some (vi (1)), some (vi (((xx : Nat) : Int))), some (vi (((ii : Nat) : Int))), some (vi (((gX P (gT P ii) xx : Nat) : Int)))]) (dX1_spreadMirrors.at 42 rfl) rfl (by decide) rfl ?_
        refine sw_iinc (lo' := [some (vr (e)), some (vi (((lv : Nat) : Int))), some (vi (1)), some (vi (((xx : Nat) : Int))), some (vi (((ii + 1 : Nat) : Int))), some (vi (((gX P (gT P ii) xx : Nat) : Int)))]) (dX1_spreadMirrors.at 43 rfl) rfl (by decide) rfl ?_
        refine sw_goto (tgt := 15) (dX1_spreadMirrors.at 44 rfl) (by decide) ?_
        exact sw_mask (bs := [true, true, true, true, true, false]) hv

/-- while level lv spreads -/
def SPv (P : GD) (lv : Nat) (mf : Nat → Int) (ff xx ii : Nat) : Prop :=
  (∀ y, y < gN P → (gO P y ≤ lv → mf y = ((gO P y : Nat) : Int)) ∧ (lv + 1 < gO P y → mf y = -1) ∧ (gO P y = lv + 1 → mf y = -1 ∨ mf y = ((lv + 1 : Nat) : Int))) ∧
  (∀ x i, i < gM P → (x < xx ∨ (x = xx ∧ i < ii)) → gO P x = lv → gO P (gX P (gT P i) x) = lv + 1 → mf (gX P (gT P i) x) = ((lv + 1 : Nat) : Int)) ∧
  ((ff = 0 ∧ ∀ y, y < gN P → gO P y = lv + 1 → mf y = -1) ∨ (ff = 1 ∧ ∃ y, y < gN P ∧ gO P y = lv + 1))
set_option maxHeartbeats 16000000 in
theorem c_X1_spreadMirrors {G : GG} {j nw nx gn : Nat} {g : Nat → Sh} {c : Nat → Nat → Int} {post : Option AV → AM → Prop} {e lv : Nat} {P : GD} {be : Nat → Nat} {le : Nat → Nat} {hd : Nat → Nat} {ls : Nat → Nat} {st : Nat → Int} {pr : Nat → Nat} {iv : Nat → Nat} {fa : Nat → Nat} {eb : Nat → Nat} {ml : Nat → Nat} {mf : Nat → Int} {rw : Nat → Nat} {dn : Nat → Nat} (he : e = 21 ∨ e = 35) (hle : ∀ x, x < gN P → le x = gL P x) (hhd : ∀ x, x < gN P → hd x = gH P x) (hls : ∀ x, x < gN P → ls x = gA P x) (hst : ∀ x s, x < gN P → s < gR P → st (x * 5 + s) = ((gS P x s : Nat) : Int)) (hV : GV P) (hC : GC P) (hpr : ∀ x y, x < gN P → y < gN P → pr (x * 60 + y) = gX P x y) (hiv : ∀ x, x < gN P → iv x = gI P x) (hml : ∀ i, i < gM P → ml i = gT P i) (hP : FQ P) (hlv : lv < 60) (h0 : ∀ y, y < gN P → mf y = if gO P y ≤ lv then ((gO P y : Nat) : Int) else -1) (K1 : (∃ y, y < gN P ∧ gO P y = lv + 1) → ∀ mf : Nat → Int, (∀ y, y < gN P → mf y = if gO P y ≤ lv + 1 then ((gO P y : Nat) : Int) else -1) → post (some (vi 1)) (S nw nx g, 78 + gn, (em c e be le hd ls st pr iv fa eb ml mf rw dn (gR P) (gN P) (gM P)))) (K0 : (∀ y, y < gN P → gO P y ≤ lv) → ∀ mf : Nat → Int, (∀ y, y < gN P → mf y = ((gO P y : Nat) : Int)) → post (some (vi 0)) (S nw nx g, 78 + gn, (em c e be le hd ls st pr iv fa eb ml mf rw dn (gR P) (gN P) (gM P)))) : SM G (j + 2) mX1_spreadMirrors [vr (e), vi (((lv : Nat) : Int))] (S nw nx g, 78 + gn, (em c e be le hd ls st pr iv fa eb ml mf rw dn (gR P) (gN P) (gM P))) 0 0 post := by
  have hN := GV_N hV
  have hM := hV.1.2.2.1
  have fin : ∀ (mf : Nat → Int) (ff xx : Nat), xx = gN P → SPv P lv mf ff xx 0 → post (some (vi ((ff : Nat) : Int))) (S nw nx g, 78 + gn, (em c e be le hd ls st pr iv fa eb ml mf rw dn (gR P) (gN P) (gM P))) := by
    intro mf ff xx hx h
    have all : ∀ y, y < gN P → gO P y = lv + 1 → mf y = ((lv + 1 : Nat) : Int) := by
      intro y hy ho
      have y0 : 0 < y := by
        rcases Nat.eq_zero_or_pos y with q | q
        · rw [q, hP.2.2.2.2.1] at ho; omega
        · exact q
      obtain ⟨x, i, a, b, d, f⟩ := hP.2.2.2.2.2.2 y y0 hy
      have := h.2.1 x i b (by omega) (by omega) (by rw [d]; exact ho)
      rw [d] at this
      exact this
    rcases h.2.2 with ⟨q, r⟩ | ⟨q, r⟩
    · subst q
      have none1 : ∀ y, y < gN P → gO P y ≠ lv + 1 := fun y hy ho => by
        have a := r y hy ho
        have b := all y hy ho
        omega
      have low : ∀ k y, y < gN P → gO P y = lv + 1 + k → False := by
        intro k
        induction k with
        | zero => intro y hy ho; exact none1 y hy ho
        | succ k ihk =>
          intro y hy ho
          have y0 : 0 < y := by
            rcases Nat.eq_zero_or_pos y with q | q
            · rw [q, hP.2.2.2.2.1] at ho; omega
            · exact q
          obtain ⟨x, i, a, b, d, f⟩ := hP.2.2.2.2.2.2 y y0 hy
          exact ihk x a (by omega)
      have lo2 : ∀ y, y < gN P → gO P y ≤ lv := fun y hy => Decidable.byContradiction fun q => low (gO P y - lv - 1) y hy (by omega)
      exact K0 lo2 mf (fun y hy => (h.1 y hy).1 (lo2 y hy))
    · subst q
      refine K1 r mf (fun y hy => ?_)
      by_cases c1 : gO P y ≤ lv
      · rw [if_pos (by omega)]; exact (h.1 y hy).1 c1
      · by_cases c2 : gO P y = lv + 1
        · rw [if_pos (by omega), c2]; exact all y hy c2
        · rw [if_neg (by omega)]; exact (h.1 y hy).2.1 (by omega)
  have L : ∀ (t xx ff : Nat) (mf : Nat → Int), xx + t = gN P → ff < 2 → SPv P lv mf ff xx 0 → SW G (j + 1) mX1_spreadMirrors 4 [some (vr (e)), some (vi (((lv : Nat) : Int))), some (vi (((ff : Nat) : Int))), some (vi (((xx : Nat) : Int))), none, none] [] (S nw nx g, 78 + gn, (em c e be le hd ls st pr iv fa eb ml mf rw dn (gR P) (gN P) (gM P))) B0 post := by
    intro t
    induction t with
    | zero =>
      intro xx ff mf hx hf h
      have K := fin mf ff xx (by omega) h
      refine g_X1_spreadMirrors_4 he hle hhd hls hst hV hC hpr hiv hml ?_
      refine ⟨?_, ?_, ⟨fun q => ⟨?_, ?_⟩, fun q => ?_⟩⟩
      all_goals first | omega | (exfalso; omega) | exact K | (exact ⟨by omega, K⟩)
    | succ t ih =>
      intro xx ff mf hx hf h
      have hxx : xx < gN P := by omega
      have L15 : ∀ (u ii ff : Nat) (mf : Nat → Int), ii + u = gM P → ff < 2 → SPv P lv mf ff xx ii → SW G (j + 1) mX1_spreadMirrors 15 [some (vr (e)), some (vi (((lv : Nat) : Int))), some (vi (((ff : Nat) : Int))), some (vi (((xx : Nat) : Int))), some (vi (((ii : Nat) : Int))), none] [] (S nw nx g, 78 + gn, (em c e be le hd ls st pr iv fa eb ml mf rw dn (gR P) (gN P) (gM P))) B0 post := by
        intro u
        induction u with
        | zero =>
          intro ii ff mf hi hf h
          have h2 : SPv P lv mf ff (xx + 1) 0 := ⟨h.1, fun x i a b => h.2.1 x i a (by omega), h.2.2⟩
          refine g_X1_spreadMirrors_15 he hle hhd hls hst hV hC hpr hiv hml ?_
          refine ⟨?_, ?_, ⟨fun q => ?_, fun q => ⟨?_, ⟨?_, ?_, ⟨fun q => ?_, fun q => ⟨?_, ?_, ⟨?_, ?_, ⟨?_, ⟨?_, ⟨fun q => ?_, fun q => ⟨?_, ?_⟩⟩⟩⟩⟩⟩⟩⟩⟩⟩⟩
          all_goals first | omega | (exfalso; omega) | exact ih _ _ _ (by omega) hf h2
        | succ u ihu =>
          intro ii ff mf hi hf h
          have f1 := hV.2.2.2.2.2 ii (by omega)
          have f2 := hV.2.2.2.2.1 _ xx f1 hxx
          have f3 := hP.2.2.2.2.2.1 xx ii hxx (by omega)
          have f4 := h.1 xx hxx
          have f5 := h.1 _ f2
          have r1 : -2147483648 ≤ mf xx ∧ mf xx < 2147483648 := by
            have o := (hV.2.2.1 xx hxx).2.2.2.2.2.2.1
            by_cases c1 : gO P xx ≤ lv
            · have := f4.1 c1; omega
            · by_cases c2 : gO P xx = lv + 1
              · rcases f4.2.2 c2 with q | q <;> omega
              · have := f4.2.1 (by omega); omega
          have r2 : -2147483648 ≤ mf (gX P (gT P ii) xx) ∧ mf (gX P (gT P ii) xx) < 2147483648 := by
            have o := (hV.2.2.1 _ f2).2.2.2.2.2.2.1
            by_cases c1 : gO P (gX P (gT P ii) xx) ≤ lv
            · have := f5.1 c1; omega
            · by_cases c2 : gO P (gX P (gT P ii) xx) = lv + 1
              · rcases f5.2.2 c2 with q | q <;> omega
              · have := f5.2.1 (by omega); omega
          refine g_X1_spreadMirrors_15 he hle hhd hls hst hV hC hpr hiv hml ?_
          by_cases cx : mf xx = ((lv : Nat) : Int)
          · have ox : gO P xx = lv := by
              by_cases c1 : gO P xx ≤ lv
              · have := f4.1 c1; omega
              · by_cases c2 : gO P xx = lv + 1
                · rcases f4.2.2 c2 with q | q <;> omega
                · have := f4.2.1 (by omega); omega
            by_cases cy : mf (gX P (gT P ii) xx) = -1
            · have oy : gO P (gX P (gT P ii) xx) = lv + 1 := by
                refine Decidable.byContradiction fun q => ?_
                have := f5.1 (by omega)
                omega
              have h2 : SPv P lv (u1 mf (gX P (gT P ii) xx) ((lv + 1 : Nat) : Int)) 1 xx (ii + 1) := by
                refine ⟨fun y hy => ?_, fun x i a b d f => ?_, Or.inr ⟨rfl, _, f2, oy⟩⟩
                · by_cases e : y = gX P (gT P ii) xx
                  · rw [e, u1, if_pos rfl]
                    exact ⟨fun q => absurd q (by omega), fun q => absurd q (by omega), fun _ => Or.inr rfl⟩
                  · rw [u1, if_neg e]; exact h.1 y hy
                · rw [u1]
                  split
                  · rfl
                  · rename_i e
                    refine h.2.1 x i a ?_ d f
                    by_cases e2 : x = xx ∧ i = ii
                    · rw [e2.1, e2.2] at e; exact absurd rfl e
                    · omega
              refine ⟨?_, ?_, ⟨fun q => ?_, fun q => ⟨?_, ⟨?_, ?_, ⟨fun q => ?_, fun q => ⟨?_, ?_, ⟨?_, ?_, ⟨?_, ⟨?_, ⟨fun q => ?_, fun q => ⟨?_, ?_⟩⟩⟩⟩⟩⟩⟩⟩⟩⟩⟩
              all_goals first | omega | assumption | (exfalso; omega) | exact ihu _ 1 _ (by omega) (by decide) h2
            · have h2 : SPv P lv mf ff xx (ii + 1) := by
                refine ⟨h.1, fun x i a b d f => ?_, h.2.2⟩
                by_cases e2 : x = xx ∧ i = ii
                · rw [e2.1, e2.2] at f ⊢
                  rcases f5.2.2 f with q | q
                  · exact absurd q cy
                  · exact q
                · exact h.2.1 x i a (by omega) d f
              refine ⟨?_, ?_, ⟨fun q => ?_, fun q => ⟨?_, ⟨?_, ?_, ⟨fun q => ?_, fun q => ⟨?_, ?_, ⟨?_, ?_, ⟨?_, ⟨?_, ⟨fun q => ?_, fun q => ⟨?_, ?_⟩⟩⟩⟩⟩⟩⟩⟩⟩⟩⟩
              all_goals first | omega | assumption | (exfalso; omega) | exact ihu _ _ _ (by omega) hf h2 | contradiction
          · have ox : gO P xx ≠ lv := fun q => cx (by have := f4.1 (by omega); omega)
            have h2 : SPv P lv mf ff (xx + 1) 0 := ⟨h.1, fun x i a b d f => h.2.1 x i a (by
              rcases Nat.lt_trichotomy x xx with q | q | q
              · exact Or.inl q
              · subst q; exact absurd d ox
              · omega) d f, h.2.2⟩
            refine ⟨?_, ?_, ⟨fun q => ?_, fun q => ⟨?_, ⟨?_, ?_, ⟨fun q => ?_, fun q => ⟨?_, ?_, ⟨?_, ?_, ⟨?_, ⟨?_, ⟨fun q => ?_, fun q => ⟨?_, ?_⟩⟩⟩⟩⟩⟩⟩⟩⟩⟩⟩
            all_goals first | omega | assumption | (exfalso; omega) | exact ih _ _ _ (by omega) hf h2 | contradiction
      refine g_X1_spreadMirrors_4 he hle hhd hls hst hV hC hpr hiv hml ?_
      refine ⟨?_, ?_, ⟨fun q => ⟨?_, ?_⟩, fun q => ?_⟩⟩
      all_goals first | omega | (exfalso; omega) | exact L15 (gM P) 0 ff mf (by omega) hf h
  refine sm_of wX1_spreadMirrors rfl (Nat.le_of_ble_eq_true rfl) ?_
  refine g_X1_spreadMirrors_0 he hle hhd hls hst hV hC hpr hiv hml ?_
  refine L (gN P) 0 0 mf (by omega) (by omega) ⟨fun y hy => ?_, fun x i _ b => absurd b (by omega), Or.inl ⟨rfl, fun y hy q => ?_⟩⟩
  · rw [h0 y hy]
    refine ⟨fun q => if_pos q, fun q => if_neg (by omega), fun q => Or.inl (if_neg (by omega))⟩
  · rw [h0 y hy, if_neg (by omega)]

set_option maxHeartbeats 2000000 in
set_option maxRecDepth 20000 in
theorem g_X1_fillMirrorsOf_0 {G : GG} {j nw nx gn : Nat} {g : Nat → Sh} {c : Nat → Nat → Int} {post : Option AV → AM → Prop} {e : Nat} (he : e = 21 ∨ e = 35) {P : GD} {be : Nat → Nat} {le : Nat → Nat} {hd : Nat → Nat} {ls : Nat → Nat} {st : Nat → Int} {pr : Nat → Nat} {iv : Nat → Nat} {fa : Nat → Nat} {eb : Nat → Nat} {ml : Nat → Nat} {mf : Nat → Int} {rw : Nat → Nat} {dn : Nat → Nat} (hle : ∀ x, x < gN P → le x = gL P x) (hhd : ∀ x, x < gN P → hd x = gH P x) (hls : ∀ x, x < gN P → ls x = gA P x) (hst : ∀ x s, x < gN P → s < gR P → st (x * 5 + s) = ((gS P x s : Nat) : Int)) (hV : GV P) (hC : GC P) (hpr : ∀ x y, x < gN P → y < gN P → pr (x * 60 + y) = gX P x y) (hiv : ∀ x, x < gN P → iv x = gI P x) (hml : ∀ i, i < gM P → ml i = gT P i) (hP : FQ P)  (hv : SW G (j + 2) mX1_fillMirrorsOf 2 [some (vr (e)), some (vi (0))] [] (S nw nx g, 78 + gn, (em c e be le hd ls st pr iv fa eb ml mf rw dn (gR P) (gN P) (gM P))) B0 post) :
    SW G (j + 2) mX1_fillMirrorsOf 0 [some (vr (e)), none] [] (S nw nx g, 78 + gn, (em c e be le hd ls st pr iv fa eb ml mf rw dn (gR P) (gN P) (gM P))) B0 post := by
  refine sw_iconst (dX1_fillMirrorsOf.at 0 rfl) ?_
  refine sw_istore_n (lo' := [some (vr (e)), some (vi (0))]) (dX1_fillMirrorsOf.at 1 rfl) rfl (by decide) rfl ?_
  exact hv

set_option maxHeartbeats 2000000 in
set_option maxRecDepth 20000 in
theorem g_X1_fillMirrorsOf_2 {G : GG} {j nw nx gn : Nat} {g : Nat → Sh} {c : Nat → Nat → Int} {post : Option AV → AM → Prop} {e : Nat} (he : e = 21 ∨ e = 35) {P : GD} {be : Nat → Nat} {le : Nat → Nat} {hd : Nat → Nat} {ls : Nat → Nat} {st : Nat → Int} {pr : Nat → Nat} {iv : Nat → Nat} {fa : Nat → Nat} {eb : Nat → Nat} {ml : Nat → Nat} {mf : Nat → Int} {rw : Nat → Nat} {dn : Nat → Nat} {xx : Nat} (hle : ∀ x, x < gN P → le x = gL P x) (hhd : ∀ x, x < gN P → hd x = gH P x) (hls : ∀ x, x < gN P → ls x = gA P x) (hst : ∀ x s, x < gN P → s < gR P → st (x * 5 + s) = ((gS P x s : Nat) : Int)) (hV : GV P) (hC : GC P) (hpr : ∀ x y, x < gN P → y < gN P → pr (x * 60 + y) = gX P x y) (hiv : ∀ x, x < gN P → iv x = gI P x) (hml : ∀ i, i < gM P → ml i = gT P i) (hP : FQ P)  (hv : (xx < 2147483648) ∧ (gN P < 2147483648) ∧ (((gN P ≤ xx) → SW G (j + 2) mX1_fillMirrorsOf 33 [some (vr (e)), some (vi (0))] [] (S nw nx g, 78 + gn, (em c e be le hd ls st pr iv fa eb ml mf rw dn (gR P) (gN P) (gM P))) B0 post) ∧ ((¬ (gN P ≤ xx)) → (xx < 2147483648) ∧ (((xx ≠ 0) → (xx < 60) ∧ (SW G (j + 2) mX1_fillMirrorsOf 2 [some (vr (e)), some (vi (((xx + 1 : Nat) : Int)))] [] (S nw nx g, 78 + gn, (em c e be le hd ls st pr iv fa eb ml (u1 mf xx (-1)) rw dn (gR P) (gN P) (gM P))) B0 post)) ∧ ((xx = 0) → (xx < 60) ∧ (SW G (j + 2) mX1_fillMirrorsOf 2 [some (vr (e)), some (vi (((xx + 1 : Nat) : Int)))] [] (S nw nx g, 78 + gn, (em c e be le hd ls st pr iv fa eb ml (u1 mf xx 0) rw dn (gR P) (gN P) (gM P))) B0 post)))))) :
    SW G (j + 2) mX1_fillMirrorsOf 2 [some (vr (e)), some (vi (((xx : Nat) : Int)))] [] (S nw nx g, 78 + gn, (em c e be le hd ls st pr iv fa eb ml mf rw dn (gR P) (gN P) (gM P))) B0 post := by
  refine sw_iload_n (dX1_fillMirrorsOf.at 2 rfl) rfl rfl ?_
  refine sw_aload_n (dX1_fillMirrorsOf.at 3 rfl) rfl rfl ?_
  refine sw_getIE (w := ((gN P : Nat) : Int)) (dX1_fillMirrorsOf.at 4 rfl) fp_X1_59 (S_e_lt he) (S_e he) rfl em_f14 ?_
  refine sw_icmpN_ge xx (gN P) (tgt := 31) (dX1_fillMirrorsOf.at 5 rfl) (by decide) hv.1 hv.2.1 (fun q => ?_) (fun q => ?_)
  · replace hv := hv.2.2.1 q
    refine sw_iconst (dX1_fillMirrorsOf.at 17 rfl) ?_
    refine sw_istore_n (lo' := [some (vr (e)), some (vi (0))]) (dX1_fillMirrorsOf.at 18 rfl) rfl (by decide) rfl ?_
    exact hv
  · replace hv := hv.2.2.2 q
    refine sw_aload_n (dX1_fillMirrorsOf.at 6 rfl) rfl rfl ?_
    refine sw_getR (dX1_fillMirrorsOf.at 7 rfl) fp_X1_42 (S_e_lt he) (S_e he) rfl rfl ?_
    refine sw_iload_n (dX1_fillMirrorsOf.at 8 rfl) rfl rfl ?_
    refine sw_iload_n (dX1_fillMirrorsOf.at 9 rfl) rfl rfl ?_
    refine sw_ifN_ne xx (tgt := 23) (dX1_fillMirrorsOf.at 10 rfl) (by decide) hv.1 (fun q => ?_) (fun q => ?_)
    · replace hv := hv.2.1 q
      refine sw_iconst (dX1_fillMirrorsOf.at 13 rfl) ?_
      refine sw_iastN xx (dX1_fillMirrorsOf.at 14 rfl) (S_ek_lt he (by decide)) (S_e_11 he) (by decide) hv.1 ?_
      refine SW.cg (M' := (S nw nx g, 78 + gn, (em c e be le hd ls st pr iv fa eb ml (u1 mf xx (-1)) rw dn (gR P) (gN P) (gM P)))) (congrArg (fun m => (S nw nx g, 78 + gn, m)) em_w11) ?_
      replace hv := hv.2
      refine sw_iinc (lo' := [some (vr (e)), some (vi (((xx + 1 : Nat) : Int)))]) (dX1_fillMirrorsOf.at 15 rfl) rfl (by decide) rfl ?_
      refine sw_goto (tgt := 2) (dX1_fillMirrorsOf.at 16 rfl) (by decide) ?_
      exact hv
    · replace hv := hv.2.2 q
      refine sw_iconst (dX1_fillMirrorsOf.at 11 rfl) ?_
      refine sw_goto (tgt := 24) (dX1_fillMirrorsOf.at 12 rfl) (by decide) ?_
      refine sw_iastN xx (dX1_fillMirrorsOf.at 14 rfl) (S_ek_lt he (by decide)) (S_e_11 he) (by decide) hv.1 ?_
      refine SW.cg (M' := (S nw nx g, 78 + gn, (em c e be le hd ls st pr iv fa eb ml (u1 mf xx 0) rw dn (gR P) (gN P) (gM P)))) (congrArg (fun m => (S nw nx g, 78 + gn, m)) em_w11) ?_
      replace hv := hv.2
      refine sw_iinc (lo' := [some (vr (e)), some (vi (((xx + 1 : Nat) : Int)))]) (dX1_fillMirrorsOf.at 15 rfl) rfl (by decide) rfl ?_
      refine sw_goto (tgt := 2) (dX1_fillMirrorsOf.at 16 rfl) (by decide) ?_
      exact hv

set_option maxHeartbeats 2000000 in
set_option maxRecDepth 20000 in
theorem g_X1_fillMirrorsOf_33 {G : GG} {j nw nx gn : Nat} {g : Nat → Sh} {c : Nat → Nat → Int} {post : Option AV → AM → Prop} {e : Nat} (he : e = 21 ∨ e = 35) {P : GD} {be : Nat → Nat} {le : Nat → Nat} {hd : Nat → Nat} {ls : Nat → Nat} {st : Nat → Int} {pr : Nat → Nat} {iv : Nat → Nat} {fa : Nat → Nat} {eb : Nat → Nat} {ml : Nat → Nat} {mf : Nat → Int} {rw : Nat → Nat} {dn : Nat → Nat} {xx : Nat} (hle : ∀ x, x < gN P → le x = gL P x) (hhd : ∀ x, x < gN P → hd x = gH P x) (hls : ∀ x, x < gN P → ls x = gA P x) (hst : ∀ x s, x < gN P → s < gR P → st (x * 5 + s) = ((gS P x s : Nat) : Int)) (hV : GV P) (hC : GC P) (hpr : ∀ x y, x < gN P → y < gN P → pr (x * 60 + y) = gX P x y) (hiv : ∀ x, x < gN P → iv x = gI P x) (hml : ∀ i, i < gM P → ml i = gT P i) (hP : FQ P)  (hv : (xx < 2147483648) ∧ (((60 ≤ xx) → post none (S nw nx g, 78 + gn, (em c e be le hd ls st pr iv fa eb ml mf rw dn (gR P) (gN P) (gM P)))) ∧ ((¬ (60 ≤ xx)) → (xx < 60) ∧ (∀ y, y < gN P → mf y = if gO P y ≤ xx then ((gO P y : Nat) : Int) else -1) ∧ ((∃ y, y < gN P ∧ gO P y = xx + 1) → ∀ (mf_1 : Nat → Int), (∀ y, y < gN P → mf_1 y = if gO P y ≤ xx + 1 then ((gO P y : Nat) : Int) else -1) → SW G (j + 2) mX1_fillMirrorsOf 33 [some (vr (e)), some (vi (((xx + 1 : Nat) : Int)))] [] (S nw nx g, 78 + gn, (em c e be le hd ls st pr iv fa eb ml mf_1 rw dn (gR P) (gN P) (gM P))) B0 post) ∧ ((∀ y, y < gN P → gO P y ≤ xx) → ∀ (mf_2 : Nat → Int), (∀ y, y < gN P → mf_2 y = ((gO P y : Nat) : Int)) → post none (S nw nx g, 78 + gn, (em c e be le hd ls st pr iv fa eb ml mf_2 rw dn (gR P) (gN P) (gM P))))))) :
    SW G (j + 2) mX1_fillMirrorsOf 33 [some (vr (e)), some (vi (((xx : Nat) : Int)))] [] (S nw nx g, 78 + gn, (em c e be le hd ls st pr iv fa eb ml mf rw dn (gR P) (gN P) (gM P))) B0 post := by
  refine sw_iload_n (dX1_fillMirrorsOf.at 19 rfl) rfl rfl ?_
  refine sw_bipush (dX1_fillMirrorsOf.at 20 rfl) (by decide) ?_
  refine sw_icmpN_ge xx 60 (tgt := 54) (dX1_fillMirrorsOf.at 21 rfl) (by decide) hv.1 (by decide) (fun q => ?_) (fun q => ?_)
  · replace hv := hv.2.1 q
    exact sw_vret (dX1_fillMirrorsOf.at 29 rfl) rfl (Nat.le_refl _) (Nat.le_refl _) hv
  · replace hv := hv.2.2 q
    refine sw_aload_n (dX1_fillMirrorsOf.at 22 rfl) rfl rfl ?_
    refine sw_iload_n (dX1_fillMirrorsOf.at 23 rfl) rfl rfl ?_
    refine sw_callV (B' := B0) (As := [vi (((xx : Nat) : Int))]) (mc := 0) (ms := 0) (dX1_fillMirrorsOf.at 24 rfl) lk_X1_121 (S_e_lt he) (S_e he) rfl rfl (Nat.le_of_ble_eq_true rfl) rfl (Nat.le_refl _) (Nat.le_refl _) ?_
    refine c_X1_spreadMirrors (lv := xx) (j := j + 0) he hle hhd hls hst hV hC hpr hiv hml hP hv.1 hv.2.1 (fun q mf_1 q2 => ?_) (fun q mf_2 q2 => ?_) 
    · replace hv := hv.2.2.1 q mf_1 q2
      refine sw_if_ne (tgt := 48) (dX1_fillMirrorsOf.at 25 rfl) (by decide) (by decide) (fun q => ?_) (fun q => ?_)
      · clear q
        refine sw_iinc (lo' := [some (vr (e)), some (vi (((xx + 1 : Nat) : Int)))]) (dX1_fillMirrorsOf.at 27 rfl) rfl (by decide) rfl ?_
        refine sw_goto (tgt := 33) (dX1_fillMirrorsOf.at 28 rfl) (by decide) ?_
        exact hv
      · exact absurd q (by decide)
    · replace hv := hv.2.2.2 q mf_2 q2
      refine sw_if_ne (tgt := 48) (dX1_fillMirrorsOf.at 25 rfl) (by decide) (by decide) (fun q => ?_) (fun q => ?_)
      · exact absurd q (by decide)
      · clear q
        exact sw_vret (dX1_fillMirrorsOf.at 26 rfl) rfl (Nat.le_refl _) (Nat.le_refl _) hv

set_option maxHeartbeats 8000000 in
theorem c_X1_fillMirrorsOf {G : GG} {j nw nx gn : Nat} {g : Nat → Sh} {c : Nat → Nat → Int} {post : Option AV → AM → Prop} {e : Nat} {P : GD} {be : Nat → Nat} {le : Nat → Nat} {hd : Nat → Nat} {ls : Nat → Nat} {st : Nat → Int} {pr : Nat → Nat} {iv : Nat → Nat} {fa : Nat → Nat} {eb : Nat → Nat} {ml : Nat → Nat} {mf : Nat → Int} {rw : Nat → Nat} {dn : Nat → Nat} (he : e = 21 ∨ e = 35) (hle : ∀ x, x < gN P → le x = gL P x) (hhd : ∀ x, x < gN P → hd x = gH P x) (hls : ∀ x, x < gN P → ls x = gA P x) (hst : ∀ x s, x < gN P → s < gR P → st (x * 5 + s) = ((gS P x s : Nat) : Int)) (hV : GV P) (hC : GC P) (hpr : ∀ x y, x < gN P → y < gN P → pr (x * 60 + y) = gX P x y) (hiv : ∀ x, x < gN P → iv x = gI P x) (hml : ∀ i, i < gM P → ml i = gT P i) (hP : FQ P) (K : ∀ mf : Nat → Int, (∀ y, y < gN P → mf y = ((gO P y : Nat) : Int)) → post none (S nw nx g, 78 + gn, (em c e be le hd ls st pr iv fa eb ml mf rw dn (gR P) (gN P) (gM P)))) : SM G (j + 3) mX1_fillMirrorsOf [vr (e)] (S nw nx g, 78 + gn, (em c e be le hd ls st pr iv fa eb ml mf rw dn (gR P) (gN P) (gM P))) 0 0 post := by
  have hN := GV_N hV
  have L33 : ∀ (t xx : Nat) (mf : Nat → Int), xx + t = 60 → (∀ y, y < gN P → mf y = if gO P y ≤ xx then ((gO P y : Nat) : Int) else -1) → SW G (j + 2) mX1_fillMirrorsOf 33 [some (vr (e)), some (vi (((xx : Nat) : Int)))] [] (S nw nx g, 78 + gn, (em c e be le hd ls st pr iv fa eb ml mf rw dn (gR P) (gN P) (gM P))) B0 post := by
    intro t
    induction t with
    | zero =>
      intro xx mf hx h
      refine g_X1_fillMirrorsOf_33 he hle hhd hls hst hV hC hpr hiv hml hP ?_
      refine ⟨?_, ⟨fun q => ?_, fun q => ⟨?_, ?_, fun q => fun mf_1 => fun q => ?_, fun q => fun mf_2 => fun q => ?_⟩⟩⟩
      all_goals first | omega | assumption | (exfalso; omega) | exact K mf (fun y hy => by have o := (hV.2.2.1 y hy).2.2.2.2.2.2.1; rw [h y hy, if_pos (by omega)])
    | succ t ih =>
      intro xx mf hx h
      refine g_X1_fillMirrorsOf_33 he hle hhd hls hst hV hC hpr hiv hml hP ?_
      refine ⟨?_, ⟨fun q => ?_, fun q => ⟨?_, ?_, fun q => fun mf_1 => fun q => ?_, fun q => fun mf_2 => fun q => ?_⟩⟩⟩
      all_goals first | omega | assumption | (exfalso; omega) | exact ih _ _ (by omega) q2 | exact K _ q2 | exact ih _ _ (by omega) q | exact K _ q
  have pos : ∀ y, 0 < y → y < gN P → 0 < gO P y := fun y y0 hy => by
    obtain ⟨x, i, a, b, d, f⟩ := hP.2.2.2.2.2.2 y y0 hy
    omega
  have L2 : ∀ (t xx : Nat) (mf : Nat → Int), xx + t = gN P → (∀ y, y < xx → mf y = if y = 0 then 0 else -1) → SW G (j + 2) mX1_fillMirrorsOf 2 [some (vr (e)), some (vi (((xx : Nat) : Int)))] [] (S nw nx g, 78 + gn, (em c e be le hd ls st pr iv fa eb ml mf rw dn (gR P) (gN P) (gM P))) B0 post := by
    intro t
    induction t with
    | zero =>
      intro xx mf hx h
      refine g_X1_fillMirrorsOf_2 he hle hhd hls hst hV hC hpr hiv hml hP ?_
      refine ⟨?_, ?_, ⟨fun q => ?_, fun q => ⟨?_, ⟨fun q => ⟨?_, ?_⟩, fun q => ⟨?_, ?_⟩⟩⟩⟩⟩
      all_goals first | omega | (exfalso; omega) | skip
      refine L33 60 0 mf rfl (fun y hy => ?_)
      rw [h y (by omega)]
      by_cases e : y = 0
      · subst e; rw [if_pos rfl, hP.2.2.2.2.1, if_pos (Nat.le_refl _)]; rfl
      · have := pos y (by omega) hy
        rw [if_neg e, if_neg (by omega)]
    | succ t ih =>
      intro xx mf hx h
      have nxt : ∀ v : Int, (v = if xx = 0 then 0 else -1) → ∀ y, y < xx + 1 → u1 mf xx v y = if y = 0 then 0 else -1 := by
        intro v hv y hy
        by_cases e : y = xx
        · rw [e, u1, if_pos rfl, hv]
        · rw [u1, if_neg e]; exact h y (by omega)
      refine g_X1_fillMirrorsOf_2 he hle hhd hls hst hV hC hpr hiv hml hP ?_
      refine ⟨?_, ?_, ⟨fun q => ?_, fun q => ⟨?_, ⟨fun q => ⟨?_, ?_⟩, fun q => ⟨?_, ?_⟩⟩⟩⟩⟩
      all_goals first | omega | (exfalso; omega) | exact ih _ _ (by omega) (nxt _ (by rw [if_pos (by omega)])) | exact ih _ _ (by omega) (nxt _ (by rw [if_neg (by omega)]))
  refine sm_of wX1_fillMirrorsOf rfl (Nat.le_of_ble_eq_true rfl) ?_
  refine g_X1_fillMirrorsOf_0 he hle hhd hls hst hV hC hpr hiv hml hP ?_
  exact L2 (gN P) 0 mf (by omega) (fun y a => absurd a (by omega))

