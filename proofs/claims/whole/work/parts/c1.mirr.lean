set_option maxHeartbeats 2000000 in
set_option maxRecDepth 20000 in
theorem g_X9_laysMirrors_0 {G : GG} {j nw nx gn : Nat} {g : Nat → Sh} {c : Nat → Nat → Int} {post : Option AV → AM → Prop} {P : GD} {ln : Nat} {bo : Nat → Nat} {im : Nat → Nat} {bh : Nat → Nat} {ah : Nat → Nat} {lo : Nat → Nat} {fr : Nat → Nat} {la : Nat → Nat} {bk : Nat → Nat} {mo : Nat → Nat} {sp : Nat → Int} {mm : Nat} {tp : Nat} {hb : Bool} (hR : c 49 4 = ((gR P : Nat) : Int)) (hL : c 49 5 = ((ln : Nat) : Int)) (hBo : ∀ i, i < 25 → c 51 i = ((bo i : Nat) : Int)) (hlo : ∀ x, x < gN P → lo x = gL P x) (hfr : ∀ x, 0 < x → x < gN P → fr x = gH P x ∧ la x = gA P x) (hbh : ∀ x s, x < gN P → s < gR P → bh (5 * x + s) = gS P x s) (hV : GV P) (hC : GC P) (hbk : ∀ x, x < gN P → bk x = gI P x)  (hv : SW G (j + 2) mX9_laysMirrors 4 [some (vr (49)), some (vl (0)), none, some (vi (0)), none] [] (S nw nx g, 78 + gn, (lm c im bh ah lo fr la bk mo sp mm (gN P) tp hb)) B0 post) :
    SW G (j + 2) mX9_laysMirrors 0 [some (vr (49)), none, none, none, none] [] (S nw nx g, 78 + gn, (lm c im bh ah lo fr la bk mo sp mm (gN P) tp hb)) B0 post := by
  refine sw_lconst (z := 0) (dX9_laysMirrors_0.at 0 rfl) (by decide) ?_
  refine sw_lstore_n (lo' := [some (vr (49)), some (vl (0)), none, none, none]) (dX9_laysMirrors_0.at 1 rfl) rfl (by decide) rfl ?_
  refine sw_iconst (dX9_laysMirrors_0.at 2 rfl) ?_
  refine sw_istore_n (lo' := [some (vr (49)), some (vl (0)), none, some (vi (0)), none]) (dX9_laysMirrors_0.at 3 rfl) rfl (by decide) rfl ?_
  exact hv

set_option maxHeartbeats 2000000 in
set_option maxRecDepth 20000 in
theorem g_X9_laysMirrors_4 {G : GG} {j nw nx gn : Nat} {g : Nat → Sh} {c : Nat → Nat → Int} {post : Option AV → AM → Prop} {P : GD} {ln : Nat} {bo : Nat → Nat} {im : Nat → Nat} {bh : Nat → Nat} {ah : Nat → Nat} {lo : Nat → Nat} {fr : Nat → Nat} {la : Nat → Nat} {bk : Nat → Nat} {mo : Nat → Nat} {sp : Nat → Int} {mm : Nat} {tp : Nat} {hb : Bool} {xx : Nat} {aa : Nat} (hR : c 49 4 = ((gR P : Nat) : Int)) (hL : c 49 5 = ((ln : Nat) : Int)) (hBo : ∀ i, i < 25 → c 51 i = ((bo i : Nat) : Int)) (hlo : ∀ x, x < gN P → lo x = gL P x) (hfr : ∀ x, 0 < x → x < gN P → fr x = gH P x ∧ la x = gA P x) (hbh : ∀ x s, x < gN P → s < gR P → bh (5 * x + s) = gS P x s) (hV : GV P) (hC : GC P) (hbk : ∀ x, x < gN P → bk x = gI P x)  (hv : (xx < 2147483648) ∧ (gN P < 2147483648) ∧ (((gN P ≤ xx) → SW G (j + 2) mX9_laysMirrors 64 [some (vr (49)), some (vl (((aa : Nat) : Int))), none, some (vi (0)), none] [] (S nw nx g, 78 + gn, (lm c im bh ah lo fr la bk mo sp mm (gN P) tp hb)) B0 post) ∧ ((¬ (gN P ≤ xx)) → SW G (j + 2) mX9_laysMirrors 15 [some (vr (49)), some (vl (((aa : Nat) : Int))), none, some (vi (((xx : Nat) : Int))), some (vi (0))] [] (S nw nx g, 78 + gn, (lm c im bh ah lo fr la bk mo sp mm (gN P) tp hb)) B0 post))) :
    SW G (j + 2) mX9_laysMirrors 4 [some (vr (49)), some (vl (((aa : Nat) : Int))), none, some (vi (((xx : Nat) : Int))), none] [] (S nw nx g, 78 + gn, (lm c im bh ah lo fr la bk mo sp mm (gN P) tp hb)) B0 post := by
  refine sw_iload_n (dX9_laysMirrors_0.at 4 rfl) rfl rfl ?_
  refine sw_aload_n (dX9_laysMirrors_0.at 5 rfl) rfl rfl ?_
  refine sw_getIE (w := ((gN P : Nat) : Int)) (dX9_laysMirrors_0.at 6 rfl) fp_X9_196 (S_lt 49 (by decide)) (S_49 nw nx g) rfl rfl ?_
  refine sw_icmpN_ge xx (gN P) (tgt := 62) (dX9_laysMirrors_0.at 7 rfl) (by decide) hv.1 hv.2.1 (fun q => ?_) (fun q => ?_)
  · replace hv := hv.2.2.1 q
    refine sw_iconst (dX9_laysMirrors_0.at 37 rfl) ?_
    refine sw_istore_n (lo' := [some (vr (49)), some (vl (((aa : Nat) : Int))), none, some (vi (0)), none]) (dX9_laysMirrors_0.at 38 rfl) rfl (by decide) rfl ?_
    exact hv
  · replace hv := hv.2.2.2 q
    refine sw_iconst (dX9_laysMirrors_0.at 8 rfl) ?_
    refine sw_istore (lo' := [some (vr (49)), some (vl (((aa : Nat) : Int))), none, some (vi (((xx : Nat) : Int))), some (vi (0))]) (dX9_laysMirrors_0.at 9 rfl) (by decide) rfl ?_
    exact hv

set_option maxHeartbeats 2000000 in
set_option maxRecDepth 20000 in
theorem g_X9_laysMirrors_15 {G : GG} {j nw nx gn : Nat} {g : Nat → Sh} {c : Nat → Nat → Int} {post : Option AV → AM → Prop} {P : GD} {ln : Nat} {bo : Nat → Nat} {im : Nat → Nat} {bh : Nat → Nat} {ah : Nat → Nat} {lo : Nat → Nat} {fr : Nat → Nat} {la : Nat → Nat} {bk : Nat → Nat} {mo : Nat → Nat} {sp : Nat → Int} {mm : Nat} {tp : Nat} {hb : Bool} {xx : Nat} {ss : Nat} {aa : Nat} (hR : c 49 4 = ((gR P : Nat) : Int)) (hL : c 49 5 = ((ln : Nat) : Int)) (hBo : ∀ i, i < 25 → c 51 i = ((bo i : Nat) : Int)) (hlo : ∀ x, x < gN P → lo x = gL P x) (hfr : ∀ x, 0 < x → x < gN P → fr x = gH P x ∧ la x = gA P x) (hbh : ∀ x s, x < gN P → s < gR P → bh (5 * x + s) = gS P x s) (hV : GV P) (hC : GC P) (hbk : ∀ x, x < gN P → bk x = gI P x)  (hv : (ss < 2147483648) ∧ (gR P < 2147483648) ∧ (((gR P ≤ ss) → SW G (j + 2) mX9_laysMirrors 4 [some (vr (49)), some (vl (((aa : Nat) : Int))), none, some (vi (((xx + 1 : Nat) : Int))), none] [] (S nw nx g, 78 + gn, (lm c im bh ah lo fr la bk mo sp mm (gN P) tp hb)) B0 post) ∧ ((¬ (gR P ≤ ss)) → (xx < gN P) ∧ (ss < gR P) ∧ ((5 * xx) + ss < 300) ∧ ((xx < gN P) ∧ (xx < 60) ∧ (((gS P xx ss) < gN P) ∧ ((gI P xx) < gN P) ∧ (∀ (sp_1 : Nat → Int), (gX P (gS P xx ss) (gI P xx) < 64) ∧ (SW G (j + 2) mX9_laysMirrors 15 [some (vr (49)), some (vl (((aa ||| (1 * 2 ^ (gX P (gS P xx ss) (gI P xx))) : Nat) : Int))), none, some (vi (((xx : Nat) : Int))), some (vi (((ss + 1 : Nat) : Int)))] [] (S nw nx g, 78 + gn, (lm c im bh ah lo fr la bk mo sp_1 mm (gN P) tp hb)) B0 post))))))) :
    SW G (j + 2) mX9_laysMirrors 15 [some (vr (49)), some (vl (((aa : Nat) : Int))), none, some (vi (((xx : Nat) : Int))), some (vi (((ss : Nat) : Int)))] [] (S nw nx g, 78 + gn, (lm c im bh ah lo fr la bk mo sp mm (gN P) tp hb)) B0 post := by
  refine sw_iload (dX9_laysMirrors_0.at 10 rfl) rfl ?_
  refine sw_aload_n (dX9_laysMirrors_0.at 11 rfl) rfl rfl ?_
  refine sw_getIE (w := ((gR P : Nat) : Int)) (dX9_laysMirrors_0.at 12 rfl) fp_X9_159 (S_lt 49 (by decide)) (S_49 nw nx g) rfl hR ?_
  refine sw_icmpN_ge ss (gR P) (tgt := 56) (dX9_laysMirrors_0.at 13 rfl) (by decide) hv.1 hv.2.1 (fun q => ?_) (fun q => ?_)
  · replace hv := hv.2.2.1 q
    refine sw_iinc (lo' := [some (vr (49)), some (vl (((aa : Nat) : Int))), none, some (vi (((xx + 1 : Nat) : Int))), some (vi (((ss : Nat) : Int)))]) (dX9_laysMirrors_0.at 35 rfl) rfl (by decide) rfl ?_
    refine sw_goto (tgt := 4) (dX9_laysMirrors_0.at 36 rfl) (by decide) ?_
    exact sw_mask (bs := [true, true, false, true, false]) hv
  · replace hv := hv.2.2.2 q
    refine sw_lload_n (dX9_laysMirrors_0.at 14 rfl) rfl rfl ?_
    refine sw_lconst (z := 1) (dX9_laysMirrors_0.at 15 rfl) (by decide) ?_
    refine sw_aload_n (dX9_laysMirrors_0.at 16 rfl) rfl rfl ?_
    refine sw_aload_n (dX9_laysMirrors_0.at 17 rfl) rfl rfl ?_
    refine sw_getR (dX9_laysMirrors_0.at 18 rfl) fp_X9_26 (S_lt 49 (by decide)) (S_49 nw nx g) rfl rfl ?_
    refine sw_iconst (dX9_laysMirrors_0.at 19 rfl) ?_
    refine sw_iload_n (dX9_laysMirrors_0.at 20 rfl) rfl rfl ?_
    refine sw_imul (dX9_laysMirrors_0.at 21 rfl) ?_
    refine sw_topI (y := ((5 * xx : Nat) : Int)) (by first | rfl | (congr 1)) ?_
    refine sw_iload (dX9_laysMirrors_0.at 22 rfl) rfl ?_
    refine sw_iadd (dX9_laysMirrors_0.at 23 rfl) ?_
    refine sw_topI (y := (((5 * xx) + ss : Nat) : Int)) (by first | rfl | (congr 1)) ?_
    refine sw_ialdN ((5 * xx) + ss) (w := ((gS P xx ss : Nat) : Int)) (dX9_laysMirrors_0.at 24 rfl) (S_lt 54 (by decide)) (S_54 nw nx g) (by decide) hv.2.2.1 (congrArg Int.ofNat (hbh _ _ hv.1 hv.2.1)) ?_
    replace hv := hv.2.2.2
    refine sw_aload_n (dX9_laysMirrors_0.at 25 rfl) rfl rfl ?_
    refine sw_getR (dX9_laysMirrors_0.at 26 rfl) fp_X9_41 (S_lt 49 (by decide)) (S_49 nw nx g) rfl rfl ?_
    refine sw_iload_n (dX9_laysMirrors_0.at 27 rfl) rfl rfl ?_
    refine sw_ialdN xx (w := ((gI P xx : Nat) : Int)) (dX9_laysMirrors_0.at 28 rfl) (S_lt 59 (by decide)) (S_59 nw nx g) (by decide) hv.2.1 (congrArg Int.ofNat (hbk _ hv.1)) ?_
    replace hv := hv.2.2
    refine sw_callV (B' := B0) (As := [vi (((gS P xx ss : Nat) : Int)), vi (((gI P xx : Nat) : Int))]) (mc := 0) (ms := 0) (dX9_laysMirrors_0.at 29 rfl) lk_X9_237 (S_lt 49 (by decide)) (S_49 nw nx g) rfl rfl (Nat.le_of_ble_eq_true rfl) rfl (Nat.le_refl _) (Nat.le_refl _) ?_
    refine c_X9_productL (x0 := (gS P xx ss)) (y0 := (gI P xx)) (j := j + 0) hR hL hBo hlo hfr hbh hV hC hv.1 hv.2.1 (fun sp_1 => ?_) 
    · replace hv := hv.2.2 sp_1
      refine sw_lshlN 1 (gX P (gS P xx ss) (gI P xx)) (dX9_laysMirrors_0.at 30 rfl) hv.1 ?_
      replace hv := hv.2
      refine sw_lorN aa (1 * 2 ^ (gX P (gS P xx ss) (gI P xx))) (dX9_laysMirrors_0.at 31 rfl) ?_
      refine sw_lstore_n (lo' := [some (vr (49)), some (vl (((aa ||| (1 * 2 ^ (gX P (gS P xx ss) (gI P xx))) : Nat) : Int))), none, some (vi (((xx : Nat) : Int))), some (vi (((ss : Nat) : Int)))]) (dX9_laysMirrors_0.at 32 rfl) rfl (by decide) rfl ?_
      refine sw_iinc (lo' := [some (vr (49)), some (vl (((aa ||| (1 * 2 ^ (gX P (gS P xx ss) (gI P xx))) : Nat) : Int))), none, some (vi (((xx : Nat) : Int))), some (vi (((ss + 1 : Nat) : Int)))]) (dX9_laysMirrors_0.at 33 rfl) rfl (by decide) rfl ?_
      refine sw_goto (tgt := 15) (dX9_laysMirrors_0.at 34 rfl) (by decide) ?_
      exact hv

set_option maxHeartbeats 2000000 in
set_option maxRecDepth 20000 in
theorem g_X9_laysMirrors_64 {G : GG} {j nw nx gn : Nat} {g : Nat → Sh} {c : Nat → Nat → Int} {post : Option AV → AM → Prop} {P : GD} {ln : Nat} {bo : Nat → Nat} {im : Nat → Nat} {bh : Nat → Nat} {ah : Nat → Nat} {lo : Nat → Nat} {fr : Nat → Nat} {la : Nat → Nat} {bk : Nat → Nat} {mo : Nat → Nat} {sp : Nat → Int} {mm : Nat} {tp : Nat} {hb : Bool} {xx : Nat} {aa : Nat} (hR : c 49 4 = ((gR P : Nat) : Int)) (hL : c 49 5 = ((ln : Nat) : Int)) (hBo : ∀ i, i < 25 → c 51 i = ((bo i : Nat) : Int)) (hlo : ∀ x, x < gN P → lo x = gL P x) (hfr : ∀ x, 0 < x → x < gN P → fr x = gH P x ∧ la x = gA P x) (hbh : ∀ x s, x < gN P → s < gR P → bh (5 * x + s) = gS P x s) (hV : GV P) (hC : GC P) (hbk : ∀ x, x < gN P → bk x = gI P x)  (hv : (xx < 2147483648) ∧ (gN P < 2147483648) ∧ (((gN P ≤ xx) → post none (S nw nx g, 78 + gn, (lm c im bh ah lo fr la bk mo sp mm (gN P) tp hb))) ∧ ((¬ (gN P ≤ xx)) → (aa < 9223372036854775808) ∧ (xx < 64) ∧ ((((aa.testBit xx) = false) → SW G (j + 2) mX9_laysMirrors 64 [some (vr (49)), some (vl (((aa : Nat) : Int))), none, some (vi (((xx + 1 : Nat) : Int))), none] [] (S nw nx g, 78 + gn, (lm c im bh ah lo fr la bk mo sp mm (gN P) tp hb)) B0 post) ∧ (((aa.testBit xx) = true) → (mm < 60) ∧ (SW G (j + 2) mX9_laysMirrors 64 [some (vr (49)), some (vl (((aa : Nat) : Int))), none, some (vi (((xx + 1 : Nat) : Int))), none] [] (S nw nx g, 78 + gn, (lm c im bh ah lo fr la bk (uN mo mm xx) sp (mm + 1) (gN P) tp hb)) B0 post)))))) :
    SW G (j + 2) mX9_laysMirrors 64 [some (vr (49)), some (vl (((aa : Nat) : Int))), none, some (vi (((xx : Nat) : Int))), none] [] (S nw nx g, 78 + gn, (lm c im bh ah lo fr la bk mo sp mm (gN P) tp hb)) B0 post := by
  refine sw_iload_n (dX9_laysMirrors_0.at 39 rfl) rfl rfl ?_
  refine sw_aload_n (dX9_laysMirrors_0.at 40 rfl) rfl rfl ?_
  refine sw_getIE (w := ((gN P : Nat) : Int)) (dX9_laysMirrors_0.at 41 rfl) fp_X9_196 (S_lt 49 (by decide)) (S_49 nw nx g) rfl rfl ?_
  refine sw_icmpN_ge xx (gN P) (tgt := 106) (dX9_laysMirrors_0.at 42 rfl) (by decide) hv.1 hv.2.1 (fun q => ?_) (fun q => ?_)
  · replace hv := hv.2.2.1 q
    exact sw_vret (dX9_laysMirrors_1.at 11 rfl) rfl (Nat.le_refl _) (Nat.le_refl _) hv
  · replace hv := hv.2.2.2 q
    refine sw_lload_n (dX9_laysMirrors_0.at 43 rfl) rfl rfl ?_
    refine sw_iload_n (dX9_laysMirrors_0.at 44 rfl) rfl rfl ?_
    refine sw_callS (post' := post) (B' := B0) (As := [vl (((aa : Nat) : Int)), vi (((xx : Nat) : Int))]) (mc := 0) (ms := 0) (dX9_laysMirrors_0.at 45 rfl) lk_X9_240 rfl rfl (Nat.le_of_ble_eq_true rfl) rfl (Nat.le_refl _) (Nat.le_refl _) ?_
    refine c_X9_has (s := aa) (i := xx) (j := j + 1) hv.1 hv.2.1 ?_
    replace hv := hv.2.2
    refine sw_if_eq (tgt := 100) (dX9_laysMirrors_0.at 46 rfl) (by decide) (bz_rng _) (fun q => ?_) (fun q => ?_)
    · replace hv := hv.1 (bz_0 q)
      refine sw_iinc (lo' := [some (vr (49)), some (vl (((aa : Nat) : Int))), none, some (vi (((xx + 1 : Nat) : Int))), none]) (dX9_laysMirrors_1.at 9 rfl) rfl (by decide) rfl ?_
      refine sw_goto (tgt := 64) (dX9_laysMirrors_1.at 10 rfl) (by decide) ?_
      exact hv
    · replace hv := hv.2 (bz_n0 q)
      refine sw_aload_n (dX9_laysMirrors_0.at 47 rfl) rfl rfl ?_
      refine sw_getR (dX9_laysMirrors_0.at 48 rfl) fp_X9_44 (S_lt 49 (by decide)) (S_49 nw nx g) rfl rfl ?_
      refine sw_aload_n (dX9_laysMirrors_0.at 49 rfl) rfl rfl ?_
      refine sw_getIE (w := ((mm : Nat) : Int)) (dX9_laysMirrors_1.at 0 rfl) fp_X9_215 (S_lt 49 (by decide)) (S_49 nw nx g) rfl rfl ?_
      refine sw_iload_n (dX9_laysMirrors_1.at 1 rfl) rfl rfl ?_
      refine sw_iastN mm (dX9_laysMirrors_1.at 2 rfl) (S_lt 60 (by decide)) (S_60 nw nx g) (by decide) hv.1 ?_
      refine SW.cg (M' := (S nw nx g, 78 + gn, (lm c im bh ah lo fr la bk (uN mo mm xx) sp mm (gN P) tp hb))) (congrArg (fun m => (S nw nx g, 78 + gn, m)) lm_a60) ?_
      replace hv := hv.2
      refine sw_aload_n (dX9_laysMirrors_1.at 3 rfl) rfl rfl ?_
      refine sw_dup (dX9_laysMirrors_1.at 4 rfl) (fun _ h => by cases h) ?_
      refine sw_getIE (w := ((mm : Nat) : Int)) (dX9_laysMirrors_1.at 5 rfl) fp_X9_215 (S_lt 49 (by decide)) (S_49 nw nx g) rfl rfl ?_
      refine sw_iconst (dX9_laysMirrors_1.at 6 rfl) ?_
      refine sw_iadd (dX9_laysMirrors_1.at 7 rfl) ?_
      refine sw_topI (y := ((mm + 1 : Nat) : Int)) (by first | rfl | (congr 1)) ?_
      refine sw_putI (dX9_laysMirrors_1.at 8 rfl) fp_X9_215 (S_lt 49 (by decide)) (S_49 nw nx g) rfl ?_
      refine SW.cg (M' := (S nw nx g, 78 + gn, (lm c im bh ah lo fr la bk (uN mo mm xx) sp (mm + 1) (gN P) tp hb))) (congrArg (fun m => (S nw nx g, 78 + gn, m)) lm_21) ?_
      refine sw_iinc (lo' := [some (vr (49)), some (vl (((aa : Nat) : Int))), none, some (vi (((xx + 1 : Nat) : Int))), none]) (dX9_laysMirrors_1.at 9 rfl) rfl (by decide) rfl ?_
      refine sw_goto (tgt := 64) (dX9_laysMirrors_1.at 10 rfl) (by decide) ?_
      exact hv

set_option maxHeartbeats 4000000 in
theorem c_X9_laysMirrors {G : GG} {j nw nx gn : Nat} {g : Nat → Sh} {c : Nat → Nat → Int} {post : Option AV → AM → Prop} {P : GD} {ln : Nat} {bo : Nat → Nat} {im : Nat → Nat} {bh : Nat → Nat} {ah : Nat → Nat} {lo : Nat → Nat} {fr : Nat → Nat} {la : Nat → Nat} {bk : Nat → Nat} {mo : Nat → Nat} {sp : Nat → Int} {tp : Nat} {hb : Bool} (hR : c 49 4 = ((gR P : Nat) : Int)) (hL : c 49 5 = ((ln : Nat) : Int)) (hBo : ∀ i, i < 25 → c 51 i = ((bo i : Nat) : Int)) (hlo : ∀ x, x < gN P → lo x = gL P x) (hfr : ∀ x, 0 < x → x < gN P → fr x = gH P x ∧ la x = gA P x) (hbh : ∀ x s, x < gN P → s < gR P → bh (5 * x + s) = gS P x s) (hV : GV P) (hC : GC P) (hbk : ∀ x, x < gN P → bk x = gI P x) (hB : FB P) (K : ∀ (mo2 : Nat → Nat) (sp2 : Nat → Int), (∀ i, i < gM P → mo2 i = gT P i) → post none (S nw nx g, 78 + gn, (lm c im bh ah lo fr la bk mo2 sp2 (gM P) (gN P) tp hb))) : SM G (j + 3) mX9_laysMirrors [vr 49] (S nw nx g, 78 + gn, (lm c im bh ah lo fr la bk mo sp 0 (gN P) tp hb)) 0 0 post := by
  have hN := GV_N hV
  have hR5 := GV_R hV
  have hA := mAll_lt hV
  have L64 : ∀ (sp : Nat → Int) (t xx mm : Nat) (mo : Nat → Nat), xx + t = gN P → mm = cntU (fun i => (mAll P).testBit i) xx → (∀ i, i < mm → mo i = gT P i) → SW G (j + 2) mX9_laysMirrors 64 [some (vr (49)), some (vl (((mAll P : Nat) : Int))), none, some (vi (((xx : Nat) : Int))), none] [] (S nw nx g, 78 + gn, (lm c im bh ah lo fr la bk mo sp mm (gN P) tp hb)) B0 post := by
    intro sp t
    induction t with
    | zero =>
      intro xx mm mo hx hm h
      have e : xx = gN P := by omega
      subst e
      rw [hB.2.2.2] at hm
      subst hm
      refine g_X9_laysMirrors_64 hR hL hBo hlo hfr hbh hV hC hbk ?_
      refine ⟨?_, ?_, ⟨fun q => ?_, fun q => ⟨?_, ?_, ⟨fun q => ?_, fun q => ⟨?_, ?_⟩⟩⟩⟩⟩
      all_goals first | omega | (exfalso; omega) | exact K _ _ h
    | succ t ih =>
      intro xx mm mo hx hm h
      have hle := cntU_le (fun i => (mAll P).testBit i) xx
      refine g_X9_laysMirrors_64 hR hL hBo hlo hfr hbh hV hC hbk ?_
      cases hb : (mAll P).testBit xx with
      | false =>
        have e : cntU (fun i => (mAll P).testBit i) (xx + 1) = cntU (fun i => (mAll P).testBit i) xx := by simp [cntU, hb]
        refine ⟨?_, ?_, ⟨fun q => ?_, fun q => ⟨?_, ?_, ⟨fun q => ?_, fun q => ⟨?_, ?_⟩⟩⟩⟩⟩
        all_goals first | omega | (exfalso; omega) | exact ih _ _ _ (by omega) (by omega) h | (exfalso; rw [hb] at *; contradiction)
      | true =>
        have e : cntU (fun i => (mAll P).testBit i) (xx + 1) = cntU (fun i => (mAll P).testBit i) xx + 1 := by simp [cntU, hb]
        have e2 := hB.2.2.1 xx (by omega) hb
        refine ⟨?_, ?_, ⟨fun q => ?_, fun q => ⟨?_, ?_, ⟨fun q => ?_, fun q => ⟨?_, ?_⟩⟩⟩⟩⟩
        all_goals first | omega | (exfalso; omega) | (exfalso; rw [hb] at *; contradiction) | skip
        refine ih _ _ _ (by omega) (by omega) (fun i hi => ?_)
        by_cases e3 : i = mm
        · rw [e3, uN, if_pos rfl, hm]; exact e2.symm
        · rw [uN, if_neg e3]; exact h i (by omega)
  have L4 : ∀ (t xx aa : Nat) (sp : Nat → Int), xx + t = gN P → aa < 2 ^ 60 → msA P t xx aa = mAll P → SW G (j + 2) mX9_laysMirrors 4 [some (vr (49)), some (vl (((aa : Nat) : Int))), none, some (vi (((xx : Nat) : Int))), none] [] (S nw nx g, 78 + gn, (lm c im bh ah lo fr la bk mo sp 0 (gN P) tp hb)) B0 post := by
    intro t
    induction t with
    | zero =>
      intro xx aa sp hx ha hm
      have hm2 : aa = mAll P := hm
      subst hm2
      refine g_X9_laysMirrors_4 hR hL hBo hlo hfr hbh hV hC hbk ?_
      refine ⟨?_, ?_, ⟨fun q => ?_, fun q => ?_⟩⟩
      all_goals first | omega | (exfalso; omega) | exact L64 sp (gN P) 0 0 mo (by omega) rfl (fun i hi => absurd hi (by omega))
    | succ t ih =>
      intro xx aa sp hx ha hm
      have L15 : ∀ (u ss aa : Nat) (sp : Nat → Int), ss + u = gR P → aa < 2 ^ 60 → msA P t (xx + 1) (msR P xx u ss aa) = mAll P → SW G (j + 2) mX9_laysMirrors 15 [some (vr (49)), some (vl (((aa : Nat) : Int))), none, some (vi (((xx : Nat) : Int))), some (vi (((ss : Nat) : Int)))] [] (S nw nx g, 78 + gn, (lm c im bh ah lo fr la bk mo sp 0 (gN P) tp hb)) B0 post := by
        intro u
        induction u with
        | zero =>
          intro ss aa sp hs ha hm
          refine g_X9_laysMirrors_15 hR hL hBo hlo hfr hbh hV hC hbk ?_
          refine ⟨?_, ?_, ⟨fun q => ?_, fun q => ⟨?_, ?_, ?_, ⟨?_, ?_, ⟨?_, ?_, fun sp_1 => ⟨?_, ?_⟩⟩⟩⟩⟩⟩
          all_goals first | omega | (exfalso; omega) | exact ih _ _ _ (by omega) ha hm
        | succ u ihu =>
          intro ss aa sp hs ha hm
          have h1 := hV.2.2.2.1 xx ss (by omega) (by omega)
          have h2 := (hV.2.2.1 xx (by omega)).2.2.2.1
          have h3 := hV.2.2.2.2.1 _ _ h1 h2
          have h4 : aa ||| 1 * 2 ^ gX P (gS P xx ss) (gI P xx) < 2 ^ 60 := Nat.or_lt_two_pow ha (pow60 (by omega))
          refine g_X9_laysMirrors_15 hR hL hBo hlo hfr hbh hV hC hbk ?_
          refine ⟨?_, ?_, ⟨fun q => ?_, fun q => ⟨?_, ?_, ?_, ⟨?_, ?_, ⟨?_, ?_, fun sp_1 => ⟨?_, ?_⟩⟩⟩⟩⟩⟩
          all_goals first | omega | (exfalso; omega) | exact ihu _ _ _ (by omega) h4 hm
      refine g_X9_laysMirrors_4 hR hL hBo hlo hfr hbh hV hC hbk ?_
      refine ⟨?_, ?_, ⟨fun q => ?_, fun q => ?_⟩⟩
      all_goals first | omega | (exfalso; omega) | exact L15 (gR P) 0 aa sp (by omega) ha hm
  refine sm_of wX9_laysMirrors rfl (Nat.le_of_ble_eq_true rfl) ?_
  refine g_X9_laysMirrors_0 hR hL hBo hlo hfr hbh hV hC hbk ?_
  exact L4 (gN P) 0 0 sp (by omega) (by decide) rfl

def LT (P : GD) (bh ah lo fr la bk mo : Nat → Nat) : Prop :=
  (∀ x, x < gN P → lo x = gL P x ∧ bk x = gI P x ∧ (0 < x → fr x = gH P x ∧ la x = gA P x)) ∧ (∀ x s, x < gN P → s < gR P → bh (5 * x + s) = gS P x s ∧ ah (5 * x + s) = gX P (s + 1) x) ∧ (∀ i, i < gM P → mo i = gT P i)
set_option maxHeartbeats 2000000 in
set_option maxRecDepth 20000 in
theorem g_X9_lays_208 {G : GG} {j nw nx gn : Nat} {g : Nat → Sh} {c : Nat → Nat → Int} {post : Option AV → AM → Prop} {P : GD} {ln : Nat} {bo : Nat → Nat} {im : Nat → Nat} {bh : Nat → Nat} {ah : Nat → Nat} {lo : Nat → Nat} {fr : Nat → Nat} {la : Nat → Nat} {bk : Nat → Nat} {mo : Nat → Nat} {sp : Nat → Int} {tp : Nat} (hR : c 49 4 = ((gR P : Nat) : Int)) (hL : c 49 5 = ((ln : Nat) : Int)) (hBo : ∀ i, i < 25 → c 51 i = ((bo i : Nat) : Int)) (hlo : ∀ x, x < gN P → lo x = gL P x) (hfr : ∀ x, 0 < x → x < gN P → fr x = gH P x ∧ la x = gA P x) (hbh : ∀ x s, x < gN P → s < gR P → bh (5 * x + s) = gS P x s) (hV : GV P) (hC : GC P) (hB : FB P)  (hv : (1 ≤ gN P) ∧ ((∀ (ah_1 : Nat → Nat), ∀ (bk_1 : Nat → Nat), ∀ (sp_1 : Nat → Int), ((∀ x, x < gN P → bk_1 x = gI P x) ∧ (∀ x s, x < gN P → s < gR P → ah_1 (5 * x + s) = gX P (s + 1) x)) → SW G (j + 5) mX9_lays 222 [some (vr (49)), none, none, none] [] (S nw nx g, 78 + gn, (lm c im bh ah_1 lo fr la bk_1 mo sp_1 0 (gN P) ((gN P) - 1) false)) B0 post))) :
    SW G (j + 5) mX9_lays 208 [some (vr (49)), none, none, none] [] (S nw nx g, 78 + gn, (lm c im bh ah lo fr la bk mo sp 0 (gN P) tp false)) B0 post := by
  refine sw_aload_n (dX9_lays_2.at 23 rfl) rfl rfl ?_
  refine sw_aload_n (dX9_lays_2.at 24 rfl) rfl rfl ?_
  refine sw_getIE (w := ((gN P : Nat) : Int)) (dX9_lays_2.at 25 rfl) fp_X9_196 (S_lt 49 (by decide)) (S_49 nw nx g) rfl rfl ?_
  refine sw_iconst (dX9_lays_2.at 26 rfl) ?_
  refine sw_isub (dX9_lays_2.at 27 rfl) ?_
  refine sw_topI (y := (((gN P) - 1 : Nat) : Int)) (congrArg _ (Int.ofNat_sub hv.1).symm) ?_
  replace hv := hv.2
  refine sw_putI (dX9_lays_2.at 28 rfl) fp_X9_218 (S_lt 49 (by decide)) (S_49 nw nx g) rfl ?_
  refine SW.cg (M' := (S nw nx g, 78 + gn, (lm c im bh ah lo fr la bk mo sp 0 (gN P) ((gN P) - 1) false))) (congrArg (fun m => (S nw nx g, 78 + gn, m)) lm_23) ?_
  refine sw_aload_n (dX9_lays_2.at 29 rfl) rfl rfl ?_
  refine sw_callV (B' := B0) (As := []) (mc := 0) (ms := 0) (dX9_lays_2.at 30 rfl) lk_X9_228 (S_lt 49 (by decide)) (S_49 nw nx g) rfl rfl (Nat.le_of_ble_eq_true rfl) rfl (Nat.le_refl _) (Nat.le_refl _) ?_
  refine c_X9_laysBack (j := j + 3) hR hL hBo hlo hfr hbh hV hC hB (fun ah_1 bk_1 sp_1 q2 => ?_) 
  · replace hv := hv ah_1 bk_1 sp_1 q2
    exact hv

set_option maxHeartbeats 2000000 in
set_option maxRecDepth 20000 in
theorem g_X9_lays_222 {G : GG} {j nw nx gn : Nat} {g : Nat → Sh} {c : Nat → Nat → Int} {post : Option AV → AM → Prop} {P : GD} {ln : Nat} {bo : Nat → Nat} {im : Nat → Nat} {bh : Nat → Nat} {ah : Nat → Nat} {lo : Nat → Nat} {fr : Nat → Nat} {la : Nat → Nat} {bk : Nat → Nat} {mo : Nat → Nat} {sp : Nat → Int} {tp : Nat} (hR : c 49 4 = ((gR P : Nat) : Int)) (hL : c 49 5 = ((ln : Nat) : Int)) (hBo : ∀ i, i < 25 → c 51 i = ((bo i : Nat) : Int)) (hlo : ∀ x, x < gN P → lo x = gL P x) (hfr : ∀ x, 0 < x → x < gN P → fr x = gH P x ∧ la x = gA P x) (hbh : ∀ x s, x < gN P → s < gR P → bh (5 * x + s) = gS P x s) (hV : GV P) (hC : GC P) (hbk : ∀ x, x < gN P → bk x = gI P x) (hB : FB P)  (hv : (∀ (mo_1 : Nat → Nat), ∀ (sp_1 : Nat → Int), (∀ i, i < gM P → mo_1 i = gT P i) → post (some (vi (1))) (S nw nx g, 78 + gn, (lm c im bh ah lo fr la bk mo_1 sp_1 (gM P) (gN P) tp false)))) :
    SW G (j + 5) mX9_lays 222 [some (vr (49)), none, none, none] [] (S nw nx g, 78 + gn, (lm c im bh ah lo fr la bk mo sp 0 (gN P) tp false)) B0 post := by
  refine sw_aload_n (dX9_lays_2.at 31 rfl) rfl rfl ?_
  refine sw_callV (B' := B0) (As := []) (mc := 0) (ms := 0) (dX9_lays_2.at 32 rfl) lk_X9_231 (S_lt 49 (by decide)) (S_49 nw nx g) rfl rfl (Nat.le_of_ble_eq_true rfl) rfl (Nat.le_refl _) (Nat.le_refl _) ?_
  refine c_X9_laysMirrors (j := j + 2) hR hL hBo hlo hfr hbh hV hC hbk hB (fun mo_1 sp_1 q2 => ?_) 
  · replace hv := hv mo_1 sp_1 q2
    refine sw_iconst (dX9_lays_2.at 33 rfl) ?_
    exact sw_zret (dX9_lays_2.at 34 rfl) rfl (by decide) (Nat.le_refl _) (Nat.le_refl _) hv

set_option maxHeartbeats 4000000 in
theorem c_X9_lays_good {G : GG} {j nw nx gn : Nat} {g : Nat → Sh} {c : Nat → Nat → Int} {post : Option AV → AM → Prop} {P : GD} {ln : Nat} {bo im0 : Nat → Nat} {im : Nat → Nat} {bh : Nat → Nat} {ah : Nat → Nat} {lo : Nat → Nat} {fr : Nat → Nat} {la : Nat → Nat} {bk : Nat → Nat} {mo : Nat → Nat} {sp : Nat → Int} {mm : Nat} {nn : Nat} {tp : Nat} {hb : Bool} (hR : c 49 4 = ((gR P : Nat) : Int)) (hL : c 49 5 = ((ln : Nat) : Int)) (hBo : ∀ i, i < 25 → c 51 i = ((bo i : Nat) : Int)) (hV : GV P) (hC : GC P) (h0 : 0 < gN P) (hF : FI P bo im0) (hB : FB P) (hbo : ∀ s q, s < gR P → q < gR P → q ≠ s → 2 ≤ bo (5 * s + q) ∧ bo (5 * s + q) ≤ 12) (hl : 0 < ln) (hl2 : ln < 1000) (K : ∀ (im bh ah lo fr la bk mo : Nat → Nat) (sp : Nat → Int), LT P bh ah lo fr la bk mo → post (some (vi 1)) (S nw nx g, 78 + gn, (lm c im bh ah lo fr la bk mo sp (gM P) (gN P) (gN P - 1) false))) : SM G (j + 6) mX9_lays [vr 49] (S nw nx g, 78 + gn, (lm c im bh ah lo fr la bk mo sp mm nn tp hb)) 0 0 post := by
  refine sm_of wX9_lays rfl (Nat.le_of_ble_eq_true rfl) ?_
  have hN := GV_N hV
  have hr := GV_R hV
  refine g_X9_lays_0 hR hL hBo ?_
  refine ⟨?_, ⟨fun q => ?_, fun q => ?_⟩⟩
  all_goals first | omega | (exfalso; omega) | skip
  refine lp_X9_lays_31 (im := im) hR hL hBo (fun im2 lo2 h1 h2 => ?_) 25 0 im rfl (fun q h => absurd h (by omega))
  have hid := id_at hr h1
  refine lp_X9_lays_good hR hL hBo hV hC hF hbo (fun im3 bh3 lo3 fr3 la3 hg => ?_) 61 0 im2 _ lo2 _ _ 1 rfl (by omega) ⟨⟨Nat.le_refl _, h0⟩, fun y q i a b d => ?_, fun y a => ?_, fun x2 s2 a b => absurd b (by omega), fun y a b => ⟨fun q => absurd q (by omega), fun q => absurd q (by omega)⟩⟩
  · have hlo : ∀ x, x < gN P → lo3 x = gL P x := fun x a => (hg.2.2.1 x a).1
    have hfr : ∀ x, 0 < x → x < gN P → fr3 x = gH P x ∧ la3 x = gA P x := fun x a b => (hg.2.2.1 x b).2 a
    have hbh : ∀ x s, x < gN P → s < gR P → bh3 (5 * x + s) = gS P x s := fun x s a b => hg.2.2.2.1 x s b (Or.inl a)
    refine g_X9_lays_208 hR hL hBo hlo hfr hbh hV hC hB ?_
    refine ⟨?_, fun ah_1 => fun bk_1 => fun sp_1 => fun q => ?_⟩
    all_goals first | omega | skip
    have hb3 := q.1
    have ha3 := q.2
    refine g_X9_lays_222 hR hL hBo hlo hfr hbh hV hC hb3 hB ?_
    refine fun mo_1 => fun sp_1 => fun q => ?_
    exact K _ _ _ _ _ _ _ _ _ ⟨fun x a => ⟨hlo x a, hb3 x a, fun b => hfr x b a⟩, fun x s a b => ⟨hbh x s a b, ha3 x s a b⟩, q⟩
  · have ey : y = 0 := by omega
    subst ey
    have e0 : 25 * 0 + 5 * q + i = 5 * q + i := by omega
    rw [e0, hid q i b d, hF.2.2.2.1 q i b d]
  · have ey : y = 0 := by omega
    subst ey
    rw [hC.2.1.1, h2]
    exact ⟨rfl, fun q => absurd q (by omega)⟩

