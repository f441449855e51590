set_option maxHeartbeats 2000000 in
set_option maxRecDepth 20000 in
theorem g_X9_laysBack_0 {G : GG} {j nw nx gn : Nat} {g : Nat → Sh} {c : Nat → Nat → Int} {post : Option AV → AM → Prop} {P : GD} {ln : Nat} {bo : Nat → Nat} {im : Nat → Nat} {bh : Nat → Nat} {ah : Nat → Nat} {lo : Nat → Nat} {fr : Nat → Nat} {la : Nat → Nat} {bk : Nat → Nat} {mo : Nat → Nat} {sp : Nat → Int} {mm : Nat} {tp : Nat} {hb : Bool} (hR : c 49 4 = ((gR P : Nat) : Int)) (hL : c 49 5 = ((ln : Nat) : Int)) (hBo : ∀ i, i < 25 → c 51 i = ((bo i : Nat) : Int)) (hlo : ∀ x, x < gN P → lo x = gL P x) (hfr : ∀ x, 0 < x → x < gN P → fr x = gH P x ∧ la x = gA P x) (hbh : ∀ x s, x < gN P → s < gR P → bh (5 * x + s) = gS P x s) (hV : GV P) (hC : GC P)  (hv : SW G (j + 1) mX9_laysBack 2 [some (vr (49)), some (vi (0)), none, none] [] (S nw nx g, 78 + gn, (lm c im bh ah lo fr la bk mo sp mm (gN P) tp hb)) B0 post) :
    SW G (j + 1) mX9_laysBack 0 [some (vr (49)), none, none, none] [] (S nw nx g, 78 + gn, (lm c im bh ah lo fr la bk mo sp mm (gN P) tp hb)) B0 post := by
  refine sw_iconst (dX9_laysBack_0.at 0 rfl) ?_
  refine sw_istore_n (lo' := [some (vr (49)), some (vi (0)), none, none]) (dX9_laysBack_0.at 1 rfl) rfl (by decide) rfl ?_
  exact hv

set_option maxHeartbeats 2000000 in
set_option maxRecDepth 20000 in
theorem g_X9_laysBack_2 {G : GG} {j nw nx gn : Nat} {g : Nat → Sh} {c : Nat → Nat → Int} {post : Option AV → AM → Prop} {P : GD} {ln : Nat} {bo : Nat → Nat} {im : Nat → Nat} {bh : Nat → Nat} {ah : Nat → Nat} {lo : Nat → Nat} {fr : Nat → Nat} {la : Nat → Nat} {bk : Nat → Nat} {mo : Nat → Nat} {sp : Nat → Int} {mm : Nat} {tp : Nat} {hb : Bool} {xx : Nat} (hR : c 49 4 = ((gR P : Nat) : Int)) (hL : c 49 5 = ((ln : Nat) : Int)) (hBo : ∀ i, i < 25 → c 51 i = ((bo i : Nat) : Int)) (hlo : ∀ x, x < gN P → lo x = gL P x) (hfr : ∀ x, 0 < x → x < gN P → fr x = gH P x ∧ la x = gA P x) (hbh : ∀ x s, x < gN P → s < gR P → bh (5 * x + s) = gS P x s) (hV : GV P) (hC : GC P)  (hv : (xx < 2147483648) ∧ (gN P < 2147483648) ∧ (((gN P ≤ xx) → SW G (j + 1) mX9_laysBack 67 [some (vr (49)), some (vi (0)), none, none] [] (S nw nx g, 78 + gn, (lm c im bh ah lo fr la bk mo sp mm (gN P) tp hb)) B0 post) ∧ ((¬ (gN P ≤ xx)) → (xx < gN P) ∧ (∀ (sp_1 : Nat → Int), (∀ i, i < gL P xx → sp_1 i = ((gLet P xx i : Nat) : Int)) → (xx < gN P) ∧ (xx < 60) ∧ (SW G (j + 1) mX9_laysBack 26 [some (vr (49)), some (vi (((xx : Nat) : Int))), some (vi (0)), some (vi (((gL P xx : Nat) : Int) - 1))] [] (S nw nx g, 78 + gn, (lm c im bh ah lo fr la bk mo sp_1 mm (gN P) tp hb)) B0 post))))) :
    SW G (j + 1) mX9_laysBack 2 [some (vr (49)), some (vi (((xx : Nat) : Int))), none, none] [] (S nw nx g, 78 + gn, (lm c im bh ah lo fr la bk mo sp mm (gN P) tp hb)) B0 post := by
  refine sw_iload_n (dX9_laysBack_0.at 2 rfl) rfl rfl ?_
  refine sw_aload_n (dX9_laysBack_0.at 3 rfl) rfl rfl ?_
  refine sw_getIE (w := ((gN P : Nat) : Int)) (dX9_laysBack_0.at 4 rfl) fp_X9_196 (S_lt 49 (by decide)) (S_49 nw nx g) rfl rfl ?_
  refine sw_icmpN_ge xx (gN P) (tgt := 65) (dX9_laysBack_0.at 5 rfl) (by decide) hv.1 hv.2.1 (fun q => ?_) (fun q => ?_)
  · replace hv := hv.2.2.1 q
    refine sw_iconst (dX9_laysBack_0.at 41 rfl) ?_
    refine sw_istore_n (lo' := [some (vr (49)), some (vi (0)), none, none]) (dX9_laysBack_0.at 42 rfl) rfl (by decide) rfl ?_
    exact hv
  · replace hv := hv.2.2.2 q
    refine sw_aload_n (dX9_laysBack_0.at 6 rfl) rfl rfl ?_
    refine sw_iload_n (dX9_laysBack_0.at 7 rfl) rfl rfl ?_
    refine sw_callV (B' := B0) (As := [vi (((xx : Nat) : Int))]) (mc := 0) (ms := 0) (dX9_laysBack_0.at 8 rfl) lk_X9_234 (S_lt 49 (by decide)) (S_49 nw nx g) rfl rfl (Nat.le_of_ble_eq_true rfl) rfl (Nat.le_refl _) (Nat.le_refl _) ?_
    refine c_X9_spellsL (x0 := xx) (j := j + 0) hR hL hBo hlo hfr hbh hV hC hv.1 (fun sp_1 q2 => ?_) 
    · replace hv := hv.2 sp_1 q2
      refine sw_iconst (dX9_laysBack_0.at 9 rfl) ?_
      refine sw_istore_n (lo' := [some (vr (49)), some (vi (((xx : Nat) : Int))), some (vi (0)), none]) (dX9_laysBack_0.at 10 rfl) rfl (by decide) rfl ?_
      refine sw_aload_n (dX9_laysBack_0.at 11 rfl) rfl rfl ?_
      refine sw_getR (dX9_laysBack_0.at 12 rfl) fp_X9_32 (S_lt 49 (by decide)) (S_49 nw nx g) rfl rfl ?_
      refine sw_iload_n (dX9_laysBack_0.at 13 rfl) rfl rfl ?_
      refine sw_ialdN xx (w := ((gL P xx : Nat) : Int)) (dX9_laysBack_0.at 14 rfl) (S_lt 56 (by decide)) (S_56 nw nx g) (by decide) hv.2.1 (congrArg Int.ofNat (hlo _ hv.1)) ?_
      replace hv := hv.2.2
      refine sw_iconst (dX9_laysBack_0.at 15 rfl) ?_
      refine sw_isub (dX9_laysBack_0.at 16 rfl) ?_
      refine sw_istore_n (lo' := [some (vr (49)), some (vi (((xx : Nat) : Int))), some (vi (0)), some (vi (((gL P xx : Nat) : Int) - 1))]) (dX9_laysBack_0.at 17 rfl) rfl (by decide) rfl ?_
      exact hv

set_option maxHeartbeats 2000000 in
set_option maxRecDepth 20000 in
theorem g_X9_laysBack_26 {G : GG} {j nw nx gn : Nat} {g : Nat → Sh} {c : Nat → Nat → Int} {post : Option AV → AM → Prop} {P : GD} {ln : Nat} {bo : Nat → Nat} {im : Nat → Nat} {bh : Nat → Nat} {ah : Nat → Nat} {lo : Nat → Nat} {fr : Nat → Nat} {la : Nat → Nat} {bk : Nat → Nat} {mo : Nat → Nat} {sp : Nat → Int} {mm : Nat} {tp : Nat} {hb : Bool} {xx : Nat} {yy : Nat} {kk : Nat} (hR : c 49 4 = ((gR P : Nat) : Int)) (hL : c 49 5 = ((ln : Nat) : Int)) (hBo : ∀ i, i < 25 → c 51 i = ((bo i : Nat) : Int)) (hlo : ∀ x, x < gN P → lo x = gL P x) (hfr : ∀ x, 0 < x → x < gN P → fr x = gH P x ∧ la x = gA P x) (hbh : ∀ x s, x < gN P → s < gR P → bh (5 * x + s) = gS P x s) (hV : GV P) (hC : GC P) (hsp : ∀ i, i < gL P xx → sp i = ((gLet P xx i : Nat) : Int))  (hv : (kk < 2147483648) ∧ (((((kk : Nat) : Int) < 0) → (xx < 60) ∧ (SW G (j + 1) mX9_laysBack 2 [some (vr (49)), some (vi (((xx + 1 : Nat) : Int))), none, none] [] (S nw nx g, 78 + gn, (lm c im bh ah lo fr la (uN bk xx yy) mo sp mm (gN P) tp hb)) B0 post)) ∧ ((¬ (((kk : Nat) : Int) < 0)) → (kk < gL P xx) ∧ (kk < 14) ∧ ((yy < gN P) ∧ ((gLet P xx kk) < gR P) ∧ ((5 * yy) + (gLet P xx kk) < 300) ∧ (SW G (j + 1) mX9_laysBack 26 [some (vr (49)), some (vi (((xx : Nat) : Int))), some (vi (((gS P yy (gLet P xx kk) : Nat) : Int))), some (vi (((kk : Nat) : Int) + (-1)))] [] (S nw nx g, 78 + gn, (lm c im bh ah lo fr la bk mo sp mm (gN P) tp hb)) B0 post))))) :
    SW G (j + 1) mX9_laysBack 26 [some (vr (49)), some (vi (((xx : Nat) : Int))), some (vi (((yy : Nat) : Int))), some (vi (((kk : Nat) : Int)))] [] (S nw nx g, 78 + gn, (lm c im bh ah lo fr la bk mo sp mm (gN P) tp hb)) B0 post := by
  refine sw_iload_n (dX9_laysBack_0.at 18 rfl) rfl rfl ?_
  refine sw_if_lt (tgt := 52) (dX9_laysBack_0.at 19 rfl) (by decide) (nrng hv.1) (fun q => ?_) (fun q => ?_)
  · replace hv := hv.2.1 q
    refine sw_aload_n (dX9_laysBack_0.at 34 rfl) rfl rfl ?_
    refine sw_getR (dX9_laysBack_0.at 35 rfl) fp_X9_41 (S_lt 49 (by decide)) (S_49 nw nx g) rfl rfl ?_
    refine sw_iload_n (dX9_laysBack_0.at 36 rfl) rfl rfl ?_
    refine sw_iload_n (dX9_laysBack_0.at 37 rfl) rfl rfl ?_
    refine sw_iastN xx (dX9_laysBack_0.at 38 rfl) (S_lt 59 (by decide)) (S_59 nw nx g) (by decide) hv.1 ?_
    refine SW.cg (M' := (S nw nx g, 78 + gn, (lm c im bh ah lo fr la (uN bk xx yy) mo sp mm (gN P) tp hb))) (congrArg (fun m => (S nw nx g, 78 + gn, m)) lm_a59) ?_
    replace hv := hv.2
    refine sw_iinc (lo' := [some (vr (49)), some (vi (((xx + 1 : Nat) : Int))), some (vi (((yy : Nat) : Int))), some (vi (((kk : Nat) : Int)))]) (dX9_laysBack_0.at 39 rfl) rfl (by decide) rfl ?_
    refine sw_goto (tgt := 2) (dX9_laysBack_0.at 40 rfl) (by decide) ?_
    exact sw_mask (bs := [true, true, false, false]) hv
  · replace hv := hv.2.2 q
    refine sw_aload_n (dX9_laysBack_0.at 20 rfl) rfl rfl ?_
    refine sw_getR (dX9_laysBack_0.at 21 rfl) fp_X9_26 (S_lt 49 (by decide)) (S_49 nw nx g) rfl rfl ?_
    refine sw_iconst (dX9_laysBack_0.at 22 rfl) ?_
    refine sw_iload_n (dX9_laysBack_0.at 23 rfl) rfl rfl ?_
    refine sw_imul (dX9_laysBack_0.at 24 rfl) ?_
    refine sw_topI (y := ((5 * yy : Nat) : Int)) (by first | rfl | (congr 1)) ?_
    refine sw_aload_n (dX9_laysBack_0.at 25 rfl) rfl rfl ?_
    refine sw_getR (dX9_laysBack_0.at 26 rfl) fp_X9_47 (S_lt 49 (by decide)) (S_49 nw nx g) rfl rfl ?_
    refine sw_iload_n (dX9_laysBack_0.at 27 rfl) rfl rfl ?_
    refine sw_ialdN kk (w := ((gLet P xx kk : Nat) : Int)) (dX9_laysBack_0.at 28 rfl) (S_lt 61 (by decide)) (S_61 nw nx g) (by decide) hv.2.1 (hsp _ hv.1) ?_
    replace hv := hv.2.2
    refine sw_iadd (dX9_laysBack_0.at 29 rfl) ?_
    refine sw_topI (y := (((5 * yy) + (gLet P xx kk) : Nat) : Int)) (by first | rfl | (congr 1)) ?_
    refine sw_ialdN ((5 * yy) + (gLet P xx kk)) (w := ((gS P yy (gLet P xx kk) : Nat) : Int)) (dX9_laysBack_0.at 30 rfl) (S_lt 54 (by decide)) (S_54 nw nx g) (by decide) hv.2.2.1 (congrArg Int.ofNat (hbh _ _ hv.1 hv.2.1)) ?_
    replace hv := hv.2.2.2
    refine sw_istore_n (lo' := [some (vr (49)), some (vi (((xx : Nat) : Int))), some (vi (((gS P yy (gLet P xx kk) : Nat) : Int))), some (vi (((kk : Nat) : Int)))]) (dX9_laysBack_0.at 31 rfl) rfl (by decide) rfl ?_
    refine sw_iinc (lo' := [some (vr (49)), some (vi (((xx : Nat) : Int))), some (vi (((gS P yy (gLet P xx kk) : Nat) : Int))), some (vi (((kk : Nat) : Int) + (-1)))]) (dX9_laysBack_0.at 32 rfl) rfl (by decide) rfl ?_
    refine sw_goto (tgt := 26) (dX9_laysBack_0.at 33 rfl) (by decide) ?_
    exact hv

set_option maxHeartbeats 2000000 in
set_option maxRecDepth 20000 in
theorem g_X9_laysBack_26e {G : GG} {j nw nx gn : Nat} {g : Nat → Sh} {c : Nat → Nat → Int} {post : Option AV → AM → Prop} {P : GD} {ln : Nat} {bo : Nat → Nat} {im : Nat → Nat} {bh : Nat → Nat} {ah : Nat → Nat} {lo : Nat → Nat} {fr : Nat → Nat} {la : Nat → Nat} {bk : Nat → Nat} {mo : Nat → Nat} {sp : Nat → Int} {mm : Nat} {tp : Nat} {hb : Bool} {xx : Nat} {yy : Nat} (hR : c 49 4 = ((gR P : Nat) : Int)) (hL : c 49 5 = ((ln : Nat) : Int)) (hBo : ∀ i, i < 25 → c 51 i = ((bo i : Nat) : Int)) (hlo : ∀ x, x < gN P → lo x = gL P x) (hfr : ∀ x, 0 < x → x < gN P → fr x = gH P x ∧ la x = gA P x) (hbh : ∀ x s, x < gN P → s < gR P → bh (5 * x + s) = gS P x s) (hV : GV P) (hC : GC P)  (hv : (xx < 60) ∧ (SW G (j + 1) mX9_laysBack 2 [some (vr (49)), some (vi (((xx + 1 : Nat) : Int))), none, none] [] (S nw nx g, 78 + gn, (lm c im bh ah lo fr la (uN bk xx yy) mo sp mm (gN P) tp hb)) B0 post)) :
    SW G (j + 1) mX9_laysBack 26 [some (vr (49)), some (vi (((xx : Nat) : Int))), some (vi (((yy : Nat) : Int))), some (vi ((-1)))] [] (S nw nx g, 78 + gn, (lm c im bh ah lo fr la bk mo sp mm (gN P) tp hb)) B0 post := by
  refine sw_iload_n (dX9_laysBack_0.at 18 rfl) rfl rfl ?_
  refine sw_if_lt (tgt := 52) (dX9_laysBack_0.at 19 rfl) (by decide) (by decide) (fun q => ?_) (fun q => ?_)
  · clear q
    refine sw_aload_n (dX9_laysBack_0.at 34 rfl) rfl rfl ?_
    refine sw_getR (dX9_laysBack_0.at 35 rfl) fp_X9_41 (S_lt 49 (by decide)) (S_49 nw nx g) rfl rfl ?_
    refine sw_iload_n (dX9_laysBack_0.at 36 rfl) rfl rfl ?_
    refine sw_iload_n (dX9_laysBack_0.at 37 rfl) rfl rfl ?_
    refine sw_iastN xx (dX9_laysBack_0.at 38 rfl) (S_lt 59 (by decide)) (S_59 nw nx g) (by decide) hv.1 ?_
    refine SW.cg (M' := (S nw nx g, 78 + gn, (lm c im bh ah lo fr la (uN bk xx yy) mo sp mm (gN P) tp hb))) (congrArg (fun m => (S nw nx g, 78 + gn, m)) lm_a59) ?_
    replace hv := hv.2
    refine sw_iinc (lo' := [some (vr (49)), some (vi (((xx + 1 : Nat) : Int))), some (vi (((yy : Nat) : Int))), some (vi ((-1)))]) (dX9_laysBack_0.at 39 rfl) rfl (by decide) rfl ?_
    refine sw_goto (tgt := 2) (dX9_laysBack_0.at 40 rfl) (by decide) ?_
    exact sw_mask (bs := [true, true, false, false]) hv
  · exact absurd q (by decide)

set_option maxHeartbeats 2000000 in
set_option maxRecDepth 20000 in
theorem g_X9_laysBack_67 {G : GG} {j nw nx gn : Nat} {g : Nat → Sh} {c : Nat → Nat → Int} {post : Option AV → AM → Prop} {P : GD} {ln : Nat} {bo : Nat → Nat} {im : Nat → Nat} {bh : Nat → Nat} {ah : Nat → Nat} {lo : Nat → Nat} {fr : Nat → Nat} {la : Nat → Nat} {bk : Nat → Nat} {mo : Nat → Nat} {sp : Nat → Int} {mm : Nat} {tp : Nat} {hb : Bool} {xx : Nat} (hR : c 49 4 = ((gR P : Nat) : Int)) (hL : c 49 5 = ((ln : Nat) : Int)) (hBo : ∀ i, i < 25 → c 51 i = ((bo i : Nat) : Int)) (hlo : ∀ x, x < gN P → lo x = gL P x) (hfr : ∀ x, 0 < x → x < gN P → fr x = gH P x ∧ la x = gA P x) (hbh : ∀ x s, x < gN P → s < gR P → bh (5 * x + s) = gS P x s) (hV : GV P) (hC : GC P) (hbk : ∀ x, x < gN P → bk x = gI P x)  (hv : (xx < 2147483648) ∧ (gN P < 2147483648) ∧ (((gN P ≤ xx) → post none (S nw nx g, 78 + gn, (lm c im bh ah lo fr la bk mo sp mm (gN P) tp hb))) ∧ ((¬ (gN P ≤ xx)) → SW G (j + 1) mX9_laysBack 77 [some (vr (49)), some (vi (((xx : Nat) : Int))), some (vi (0)), none] [] (S nw nx g, 78 + gn, (lm c im bh ah lo fr la bk mo sp mm (gN P) tp hb)) B0 post))) :
    SW G (j + 1) mX9_laysBack 67 [some (vr (49)), some (vi (((xx : Nat) : Int))), none, none] [] (S nw nx g, 78 + gn, (lm c im bh ah lo fr la bk mo sp mm (gN P) tp hb)) B0 post := by
  refine sw_iload_n (dX9_laysBack_0.at 43 rfl) rfl rfl ?_
  refine sw_aload_n (dX9_laysBack_0.at 44 rfl) rfl rfl ?_
  refine sw_getIE (w := ((gN P : Nat) : Int)) (dX9_laysBack_0.at 45 rfl) fp_X9_196 (S_lt 49 (by decide)) (S_49 nw nx g) rfl rfl ?_
  refine sw_icmpN_ge xx (gN P) (tgt := 127) (dX9_laysBack_0.at 46 rfl) (by decide) hv.1 hv.2.1 (fun q => ?_) (fun q => ?_)
  · replace hv := hv.2.2.1 q
    exact sw_vret (dX9_laysBack_1.at 29 rfl) rfl (Nat.le_refl _) (Nat.le_refl _) hv
  · replace hv := hv.2.2.2 q
    refine sw_iconst (dX9_laysBack_0.at 47 rfl) ?_
    refine sw_istore_n (lo' := [some (vr (49)), some (vi (((xx : Nat) : Int))), some (vi (0)), none]) (dX9_laysBack_0.at 48 rfl) rfl (by decide) rfl ?_
    exact hv

set_option maxHeartbeats 2000000 in
set_option maxRecDepth 20000 in
theorem g_X9_laysBack_77 {G : GG} {j nw nx gn : Nat} {g : Nat → Sh} {c : Nat → Nat → Int} {post : Option AV → AM → Prop} {P : GD} {ln : Nat} {bo : Nat → Nat} {im : Nat → Nat} {bh : Nat → Nat} {ah : Nat → Nat} {lo : Nat → Nat} {fr : Nat → Nat} {la : Nat → Nat} {bk : Nat → Nat} {mo : Nat → Nat} {sp : Nat → Int} {mm : Nat} {tp : Nat} {hb : Bool} {xx : Nat} {ss : Nat} (hR : c 49 4 = ((gR P : Nat) : Int)) (hL : c 49 5 = ((ln : Nat) : Int)) (hBo : ∀ i, i < 25 → c 51 i = ((bo i : Nat) : Int)) (hlo : ∀ x, x < gN P → lo x = gL P x) (hfr : ∀ x, 0 < x → x < gN P → fr x = gH P x ∧ la x = gA P x) (hbh : ∀ x s, x < gN P → s < gR P → bh (5 * x + s) = gS P x s) (hV : GV P) (hC : GC P) (hbk : ∀ x, x < gN P → bk x = gI P x)  (hv : (ss < 2147483648) ∧ (gR P < 2147483648) ∧ (((gR P ≤ ss) → SW G (j + 1) mX9_laysBack 67 [some (vr (49)), some (vi (((xx + 1 : Nat) : Int))), none, none] [] (S nw nx g, 78 + gn, (lm c im bh ah lo fr la bk mo sp mm (gN P) tp hb)) B0 post) ∧ ((¬ (gR P ≤ ss)) → (xx < gN P) ∧ (xx < 60) ∧ (((gI P xx) < gN P) ∧ (ss < gR P) ∧ ((5 * (gI P xx)) + ss < 300) ∧ ((gS P (gI P xx) ss < gN P) ∧ (gS P (gI P xx) ss < 60) ∧ (((5 * xx) + ss < 300) ∧ (SW G (j + 1) mX9_laysBack 77 [some (vr (49)), some (vi (((xx : Nat) : Int))), some (vi (((ss + 1 : Nat) : Int))), none] [] (S nw nx g, 78 + gn, (lm c im bh (uN ah ((5 * xx) + ss) (gI P (gS P (gI P xx) ss))) lo fr la bk mo sp mm (gN P) tp hb)) B0 post))))))) :
    SW G (j + 1) mX9_laysBack 77 [some (vr (49)), some (vi (((xx : Nat) : Int))), some (vi (((ss : Nat) : Int))), none] [] (S nw nx g, 78 + gn, (lm c im bh ah lo fr la bk mo sp mm (gN P) tp hb)) B0 post := by
  refine sw_iload_n (dX9_laysBack_0.at 49 rfl) rfl rfl ?_
  refine sw_aload_n (dX9_laysBack_1.at 0 rfl) rfl rfl ?_
  refine sw_getIE (w := ((gR P : Nat) : Int)) (dX9_laysBack_1.at 1 rfl) fp_X9_159 (S_lt 49 (by decide)) (S_49 nw nx g) rfl hR ?_
  refine sw_icmpN_ge ss (gR P) (tgt := 121) (dX9_laysBack_1.at 2 rfl) (by decide) hv.1 hv.2.1 (fun q => ?_) (fun q => ?_)
  · replace hv := hv.2.2.1 q
    refine sw_iinc (lo' := [some (vr (49)), some (vi (((xx + 1 : Nat) : Int))), some (vi (((ss : Nat) : Int))), none]) (dX9_laysBack_1.at 27 rfl) rfl (by decide) rfl ?_
    refine sw_goto (tgt := 67) (dX9_laysBack_1.at 28 rfl) (by decide) ?_
    exact sw_mask (bs := [true, true, false, false]) hv
  · replace hv := hv.2.2.2 q
    refine sw_aload_n (dX9_laysBack_1.at 3 rfl) rfl rfl ?_
    refine sw_getR (dX9_laysBack_1.at 4 rfl) fp_X9_29 (S_lt 49 (by decide)) (S_49 nw nx g) rfl rfl ?_
    refine sw_iconst (dX9_laysBack_1.at 5 rfl) ?_
    refine sw_iload_n (dX9_laysBack_1.at 6 rfl) rfl rfl ?_
    refine sw_imul (dX9_laysBack_1.at 7 rfl) ?_
    refine sw_topI (y := ((5 * xx : Nat) : Int)) (by first | rfl | (congr 1)) ?_
    refine sw_iload_n (dX9_laysBack_1.at 8 rfl) rfl rfl ?_
    refine sw_iadd (dX9_laysBack_1.at 9 rfl) ?_
    refine sw_topI (y := (((5 * xx) + ss : Nat) : Int)) (by first | rfl | (congr 1)) ?_
    refine sw_aload_n (dX9_laysBack_1.at 10 rfl) rfl rfl ?_
    refine sw_getR (dX9_laysBack_1.at 11 rfl) fp_X9_41 (S_lt 49 (by decide)) (S_49 nw nx g) rfl rfl ?_
    refine sw_aload_n (dX9_laysBack_1.at 12 rfl) rfl rfl ?_
    refine sw_getR (dX9_laysBack_1.at 13 rfl) fp_X9_26 (S_lt 49 (by decide)) (S_49 nw nx g) rfl rfl ?_
    refine sw_iconst (dX9_laysBack_1.at 14 rfl) ?_
    refine sw_aload_n (dX9_laysBack_1.at 15 rfl) rfl rfl ?_
    refine sw_getR (dX9_laysBack_1.at 16 rfl) fp_X9_41 (S_lt 49 (by decide)) (S_49 nw nx g) rfl rfl ?_
    refine sw_iload_n (dX9_laysBack_1.at 17 rfl) rfl rfl ?_
    refine sw_ialdN xx (w := ((gI P xx : Nat) : Int)) (dX9_laysBack_1.at 18 rfl) (S_lt 59 (by decide)) (S_59 nw nx g) (by decide) hv.2.1 (congrArg Int.ofNat (hbk _ hv.1)) ?_
    replace hv := hv.2.2
    refine sw_imul (dX9_laysBack_1.at 19 rfl) ?_
    refine sw_topI (y := ((5 * (gI P xx) : Nat) : Int)) (by first | rfl | (congr 1)) ?_
    refine sw_iload_n (dX9_laysBack_1.at 20 rfl) rfl rfl ?_
    refine sw_iadd (dX9_laysBack_1.at 21 rfl) ?_
    refine sw_topI (y := (((5 * (gI P xx)) + ss : Nat) : Int)) (by first | rfl | (congr 1)) ?_
    refine sw_ialdN ((5 * (gI P xx)) + ss) (w := ((gS P (gI P xx) ss : Nat) : Int)) (dX9_laysBack_1.at 22 rfl) (S_lt 54 (by decide)) (S_54 nw nx g) (by decide) hv.2.2.1 (congrArg Int.ofNat (hbh _ _ hv.1 hv.2.1)) ?_
    replace hv := hv.2.2.2
    refine sw_ialdN (gS P (gI P xx) ss) (w := ((gI P (gS P (gI P xx) ss) : Nat) : Int)) (dX9_laysBack_1.at 23 rfl) (S_lt 59 (by decide)) (S_59 nw nx g) (by decide) hv.2.1 (congrArg Int.ofNat (hbk _ hv.1)) ?_
    replace hv := hv.2.2
    refine sw_iastN ((5 * xx) + ss) (dX9_laysBack_1.at 24 rfl) (S_lt 55 (by decide)) (S_55 nw nx g) (by decide) hv.1 ?_
    refine SW.cg (M' := (S nw nx g, 78 + gn, (lm c im bh (uN ah ((5 * xx) + ss) (gI P (gS P (gI P xx) ss))) lo fr la bk mo sp mm (gN P) tp hb))) (congrArg (fun m => (S nw nx g, 78 + gn, m)) lm_a55) ?_
    replace hv := hv.2
    refine sw_iinc (lo' := [some (vr (49)), some (vi (((xx : Nat) : Int))), some (vi (((ss + 1 : Nat) : Int))), none]) (dX9_laysBack_1.at 25 rfl) rfl (by decide) rfl ?_
    refine sw_goto (tgt := 77) (dX9_laysBack_1.at 26 rfl) (by decide) ?_
    exact hv

set_option maxHeartbeats 4000000 in
theorem lp_X9_laysBack_26 {G : GG} {j nw nx gn : Nat} {g : Nat → Sh} {c : Nat → Nat → Int} {post : Option AV → AM → Prop} {P : GD} {ln : Nat} {bo : Nat → Nat} {im : Nat → Nat} {bh : Nat → Nat} {ah : Nat → Nat} {lo : Nat → Nat} {fr : Nat → Nat} {la : Nat → Nat} {bk : Nat → Nat} {mo : Nat → Nat} {sp : Nat → Int} {mm : Nat} {tp : Nat} {hb : Bool} {xx V : Nat} (hR : c 49 4 = ((gR P : Nat) : Int)) (hL : c 49 5 = ((ln : Nat) : Int)) (hBo : ∀ i, i < 25 → c 51 i = ((bo i : Nat) : Int)) (hlo : ∀ x, x < gN P → lo x = gL P x) (hfr : ∀ x, 0 < x → x < gN P → fr x = gH P x ∧ la x = gA P x) (hbh : ∀ x s, x < gN P → s < gR P → bh (5 * x + s) = gS P x s) (hV : GV P) (hC : GC P) (hsp : ∀ i, i < gL P xx → sp i = ((gLet P xx i : Nat) : Int)) (hx : xx < gN P) (K : SW G (j + 1) mX9_laysBack 2 [some (vr (49)), some (vi (((xx + 1 : Nat) : Int))), none, none] [] (S nw nx g, 78 + gn, (lm c im bh ah lo fr la (uN bk xx V) mo sp mm (gN P) tp hb)) B0 post) : ∀ k yy, yy < gN P → k ≤ gL P xx → rvF P xx k yy = V → SW G (j + 1) mX9_laysBack 26 [some (vr (49)), some (vi (((xx : Nat) : Int))), some (vi (((yy : Nat) : Int))), some (vi (((k : Nat) : Int) + (-1)))] [] (S nw nx g, 78 + gn, (lm c im bh ah lo fr la bk mo sp mm (gN P) tp hb)) B0 post := by
  intro k
  have hN := GV_N hV
  have hR5 := GV_R hV
  have hl := (hV.2.2.1 xx hx).1
  induction k with
  | zero =>
    intro yy hy hk hv
    have hv2 : yy = V := hv
    subst hv2
    have e : ((0 : Nat) : Int) + (-1) = -1 := by decide
    rw [e]
    refine g_X9_laysBack_26e hR hL hBo hlo hfr hbh hV hC ?_
    refine ⟨?_, ?_⟩
    all_goals first | omega | (exfalso; omega) | exact K
  | succ k ih =>
    intro yy hy hk hv
    have e : ((k + 1 : Nat) : Int) + (-1) = ((k : Nat) : Int) := by omega
    have ht : gLet P xx k < gR P := gLet_lt hV hx
    have hs := hV.2.2.2.1 yy _ hy ht
    rw [e]
    refine g_X9_laysBack_26 hR hL hBo hlo hfr hbh hV hC hsp ?_
    refine ⟨?_, ⟨fun q => ⟨?_, ?_⟩, fun q => ⟨?_, ?_, ⟨?_, ?_, ?_, ?_⟩⟩⟩⟩
    all_goals first | omega | (exfalso; omega) | exact ih _ hs (by omega) hv
set_option maxHeartbeats 4000000 in
theorem c_X9_laysBack {G : GG} {j nw nx gn : Nat} {g : Nat → Sh} {c : Nat → Nat → Int} {post : Option AV → AM → Prop} {P : GD} {ln : Nat} {bo : Nat → Nat} {im : Nat → Nat} {bh : Nat → Nat} {ah : Nat → Nat} {lo : Nat → Nat} {fr : Nat → Nat} {la : Nat → Nat} {bk : Nat → Nat} {mo : Nat → Nat} {sp : Nat → Int} {mm : Nat} {tp : Nat} {hb : Bool} (hR : c 49 4 = ((gR P : Nat) : Int)) (hL : c 49 5 = ((ln : Nat) : Int)) (hBo : ∀ i, i < 25 → c 51 i = ((bo i : Nat) : Int)) (hlo : ∀ x, x < gN P → lo x = gL P x) (hfr : ∀ x, 0 < x → x < gN P → fr x = gH P x ∧ la x = gA P x) (hbh : ∀ x s, x < gN P → s < gR P → bh (5 * x + s) = gS P x s) (hV : GV P) (hC : GC P) (hB : FB P) (K : ∀ (ah2 bk2 : Nat → Nat) (sp2 : Nat → Int), ((∀ x, x < gN P → bk2 x = gI P x) ∧ (∀ x s, x < gN P → s < gR P → ah2 (5 * x + s) = gX P (s + 1) x)) → post none (S nw nx g, 78 + gn, (lm c im bh ah2 lo fr la bk2 mo sp2 mm (gN P) tp hb))) : SM G (j + 2) mX9_laysBack [vr 49] (S nw nx g, 78 + gn, (lm c im bh ah lo fr la bk mo sp mm (gN P) tp hb)) 0 0 post := by
  have hN := GV_N hV
  have hR5 := GV_R hV
  have L67 : ∀ (bk : Nat → Nat) (sp : Nat → Int) (hbk : ∀ x, x < gN P → bk x = gI P x) (t xx : Nat) (ah : Nat → Nat), xx + t = gN P → (∀ x s, x < xx → s < gR P → ah (5 * x + s) = gX P (s + 1) x) → SW G (j + 1) mX9_laysBack 67 [some (vr (49)), some (vi (((xx : Nat) : Int))), none, none] [] (S nw nx g, 78 + gn, (lm c im bh ah lo fr la bk mo sp mm (gN P) tp hb)) B0 post := by
    intro bk sp hbk t
    induction t with
    | zero =>
      intro xx ah hx h
      refine g_X9_laysBack_67 hR hL hBo hlo hfr hbh hV hC hbk ?_
      refine ⟨?_, ?_, ⟨fun q => ?_, fun q => ?_⟩⟩
      all_goals first | omega | (exfalso; omega) | exact K _ _ _ ⟨hbk, fun x s a b => h x s (by omega) b⟩
    | succ t ih =>
      intro xx ah hx h
      have L77 : ∀ (u ss : Nat) (ah : Nat → Nat), ss + u = gR P → (∀ x s, s < gR P → (x < xx ∨ (x = xx ∧ s < ss)) → ah (5 * x + s) = gX P (s + 1) x) → SW G (j + 1) mX9_laysBack 77 [some (vr (49)), some (vi (((xx : Nat) : Int))), some (vi (((ss : Nat) : Int))), none] [] (S nw nx g, 78 + gn, (lm c im bh ah lo fr la bk mo sp mm (gN P) tp hb)) B0 post := by
        intro u
        induction u with
        | zero =>
          intro ss ah hs h
          refine g_X9_laysBack_77 hR hL hBo hlo hfr hbh hV hC hbk ?_
          refine ⟨?_, ?_, ⟨fun q => ?_, fun q => ⟨?_, ?_, ⟨?_, ?_, ?_, ⟨?_, ?_, ⟨?_, ?_⟩⟩⟩⟩⟩⟩
          all_goals first | omega | (exfalso; omega) | exact ih _ _ (by omega) (fun x s a b => h x s b (by omega))
        | succ u ihu =>
          intro ss ah hs h
          have i1 := (hV.2.2.1 xx (by omega)).2.2.2.1
          have i2 := hV.2.2.2.1 _ ss i1 (by omega)
          have i3 := hB.2.1 xx ss (by omega) (by omega)
          refine g_X9_laysBack_77 hR hL hBo hlo hfr hbh hV hC hbk ?_
          rw [i3]
          refine ⟨?_, ?_, ⟨fun q => ?_, fun q => ⟨?_, ?_, ⟨?_, ?_, ?_, ⟨?_, ?_, ⟨?_, ?_⟩⟩⟩⟩⟩⟩
          all_goals first | omega | (exfalso; omega) | skip
          refine ihu _ _ (by omega) (fun x s a b => ?_)
          by_cases e : x = xx ∧ s = ss
          · rw [e.1, e.2, uN, if_pos rfl]
          · rw [uN, if_neg (by omega)]
            exact h x s a (by omega)
      refine g_X9_laysBack_67 hR hL hBo hlo hfr hbh hV hC hbk ?_
      refine ⟨?_, ?_, ⟨fun q => ?_, fun q => ?_⟩⟩
      all_goals first | omega | (exfalso; omega) | exact L77 (gR P) 0 ah (by omega) (fun x s a b => h x s (by omega) a)
  have L2 : ∀ (t xx : Nat) (bk : Nat → Nat) (sp : Nat → Int), xx + t = gN P → (∀ x, x < xx → bk x = gI P x) → SW G (j + 1) mX9_laysBack 2 [some (vr (49)), some (vi (((xx : Nat) : Int))), none, none] [] (S nw nx g, 78 + gn, (lm c im bh ah lo fr la bk mo sp mm (gN P) tp hb)) B0 post := by
    intro t
    induction t with
    | zero =>
      intro xx bk sp hx h
      refine g_X9_laysBack_2 hR hL hBo hlo hfr hbh hV hC ?_
      refine ⟨?_, ?_, ⟨fun q => ?_, fun q => ⟨?_, fun sp_1 => fun q => ⟨?_, ?_, ?_⟩⟩⟩⟩
      all_goals first | omega | (exfalso; omega) | exact L67 bk sp (fun x a => h x (by omega)) (gN P) 0 ah (by omega) (fun x s a _ => absurd a (by omega))
    | succ t ih =>
      intro xx bk sp hx h
      have e1 := hB.1 xx (by omega)
      refine g_X9_laysBack_2 hR hL hBo hlo hfr hbh hV hC ?_
      refine ⟨?_, ?_, ⟨fun q => ?_, fun q => ⟨?_, fun sp_1 => fun q => ⟨?_, ?_, ?_⟩⟩⟩⟩
      all_goals first | omega | (exfalso; omega) | skip
      rw [Int.sub_eq_add_neg]
      refine lp_X9_laysBack_26 hR hL hBo hlo hfr hbh hV hC q (by omega) (V := gI P xx) (ih _ _ _ (by omega) (fun x a => ?_)) (gL P xx) 0 (by omega) (Nat.le_refl _) e1
      by_cases e : x = xx
      · rw [e, uN, if_pos rfl]
      · rw [uN, if_neg e]; exact h x (by omega)
  refine sm_of wX9_laysBack rfl (Nat.le_of_ble_eq_true rfl) ?_
  refine g_X9_laysBack_0 hR hL hBo hlo hfr hbh hV hC ?_
  exact L2 (gN P) 0 bk sp (by omega) (fun x a => absurd a (by omega))

