set_option maxHeartbeats 2000000 in
set_option maxRecDepth 20000 in
theorem g_X9_lays_0 {G : GG} {j nw nx gn : Nat} {g : Nat → Sh} {c : Nat → Nat → Int} {post : Option AV → AM → Prop} {r : Nat} {ln : Nat} {bo : Nat → Nat} {im : Nat → Nat} {bh : Nat → Nat} {ah : Nat → Nat} {lo : Nat → Nat} {fr : Nat → Nat} {la : Nat → Nat} {bk : Nat → Nat} {mo : Nat → Nat} {sp : Nat → Int} {mm : Nat} {nn : Nat} {tp : Nat} {hb : Bool} (hR : c 49 4 = ((r : Nat) : Int)) (hL : c 49 5 = ((ln : Nat) : Int)) (hBo : ∀ i, i < 25 → c 51 i = ((bo i : Nat) : Int))  (hv : (ln < 2147483648) ∧ (((ln ≠ 0) → SW G (j + 5) mX9_lays 31 [some (vr (49)), some (vi (0)), none, none] [] (S nw nx g, 78 + gn, (lm c im bh ah lo fr la bk mo sp 0 0 0 false)) B0 post) ∧ ((ln = 0) → post (some (vi (1))) (S nw nx g, 78 + gn, (lm c im bh ah lo fr la bk mo sp 0 0 0 false))))) :
    SW G (j + 5) mX9_lays 0 [some (vr (49)), none, none, none] [] (S nw nx g, 78 + gn, (lm c im bh ah lo fr la bk mo sp mm nn tp hb)) B0 post := by
  refine sw_aload_n (dX9_lays_0.at 0 rfl) rfl rfl ?_
  refine sw_iconst (dX9_lays_0.at 1 rfl) ?_
  refine sw_putZ (dX9_lays_0.at 2 rfl) fp_X9_212 (S_lt 49 (by decide)) (S_49 nw nx g) rfl (by decide) ?_
  refine SW.cg (M' := (S nw nx g, 78 + gn, (lm c im bh ah lo fr la bk mo sp mm nn tp false))) (congrArg (fun m => (S nw nx g, 78 + gn, m)) lm_24f) ?_
  refine sw_aload_n (dX9_lays_0.at 3 rfl) rfl rfl ?_
  refine sw_iconst (dX9_lays_0.at 4 rfl) ?_
  refine sw_putI (dX9_lays_0.at 5 rfl) fp_X9_196 (S_lt 49 (by decide)) (S_49 nw nx g) rfl ?_
  refine SW.cg (M' := (S nw nx g, 78 + gn, (lm c im bh ah lo fr la bk mo sp mm 0 tp false))) (congrArg (fun m => (S nw nx g, 78 + gn, m)) lm_22) ?_
  refine sw_aload_n (dX9_lays_0.at 6 rfl) rfl rfl ?_
  refine sw_iconst (dX9_lays_0.at 7 rfl) ?_
  refine sw_putI (dX9_lays_0.at 8 rfl) fp_X9_215 (S_lt 49 (by decide)) (S_49 nw nx g) rfl ?_
  refine SW.cg (M' := (S nw nx g, 78 + gn, (lm c im bh ah lo fr la bk mo sp 0 0 tp false))) (congrArg (fun m => (S nw nx g, 78 + gn, m)) lm_21) ?_
  refine sw_aload_n (dX9_lays_0.at 9 rfl) rfl rfl ?_
  refine sw_iconst (dX9_lays_0.at 10 rfl) ?_
  refine sw_putI (dX9_lays_0.at 11 rfl) fp_X9_218 (S_lt 49 (by decide)) (S_49 nw nx g) rfl ?_
  refine SW.cg (M' := (S nw nx g, 78 + gn, (lm c im bh ah lo fr la bk mo sp 0 0 0 false))) (congrArg (fun m => (S nw nx g, 78 + gn, m)) lm_23) ?_
  refine sw_aload_n (dX9_lays_0.at 12 rfl) rfl rfl ?_
  refine sw_getIE (w := ((ln : Nat) : Int)) (dX9_lays_0.at 13 rfl) fp_X9_180 (S_lt 49 (by decide)) (S_49 nw nx g) rfl hL ?_
  refine sw_ifN_ne ln (tgt := 29) (dX9_lays_0.at 14 rfl) (by decide) hv.1 (fun q => ?_) (fun q => ?_)
  · replace hv := hv.2.1 q
    refine sw_iconst (dX9_lays_0.at 17 rfl) ?_
    refine sw_istore_n (lo' := [some (vr (49)), some (vi (0)), none, none]) (dX9_lays_0.at 18 rfl) rfl (by decide) rfl ?_
    exact hv
  · replace hv := hv.2.2 q
    refine sw_iconst (dX9_lays_0.at 15 rfl) ?_
    exact sw_zret (dX9_lays_0.at 16 rfl) rfl (by decide) (Nat.le_refl _) (Nat.le_refl _) hv

set_option maxHeartbeats 2000000 in
set_option maxRecDepth 20000 in
theorem g_X9_lays_31 {G : GG} {j nw nx gn : Nat} {g : Nat → Sh} {c : Nat → Nat → Int} {post : Option AV → AM → Prop} {r : Nat} {ln : Nat} {bo : Nat → Nat} {im : Nat → Nat} {bh : Nat → Nat} {ah : Nat → Nat} {lo : Nat → Nat} {fr : Nat → Nat} {la : Nat → Nat} {bk : Nat → Nat} {mo : Nat → Nat} {sp : Nat → Int} {mm : Nat} {nn : Nat} {tp : Nat} {hb : Bool} {u : Nat} (hR : c 49 4 = ((r : Nat) : Int)) (hL : c 49 5 = ((ln : Nat) : Int)) (hBo : ∀ i, i < 25 → c 51 i = ((bo i : Nat) : Int))  (hv : (u < 2147483648) ∧ (((25 ≤ u) → SW G (j + 5) mX9_lays 75 [some (vr (49)), some (vi (0)), none, none] [] (S nw nx g, 78 + gn, (lm c im bh ah (uN lo 0 0) fr la bk mo sp mm 1 tp hb)) B0 post) ∧ ((¬ (25 ≤ u)) → (u < 2147483648) ∧ ((u % 6 < 2147483648) ∧ (((u % 6 ≠ 0) → (u < 1525) ∧ (SW G (j + 5) mX9_lays 31 [some (vr (49)), some (vi (((u + 1 : Nat) : Int))), none, none] [] (S nw nx g, 78 + gn, (lm c (uN im u 0) bh ah lo fr la bk mo sp mm nn tp hb)) B0 post)) ∧ ((u % 6 = 0) → (u < 1525) ∧ (SW G (j + 5) mX9_lays 31 [some (vr (49)), some (vi (((u + 1 : Nat) : Int))), none, none] [] (S nw nx g, 78 + gn, (lm c (uN im u 1) bh ah lo fr la bk mo sp mm nn tp hb)) B0 post))))))) :
    SW G (j + 5) mX9_lays 31 [some (vr (49)), some (vi (((u : Nat) : Int))), none, none] [] (S nw nx g, 78 + gn, (lm c im bh ah lo fr la bk mo sp mm nn tp hb)) B0 post := by
  refine sw_iload_n (dX9_lays_0.at 19 rfl) rfl rfl ?_
  refine sw_bipush (dX9_lays_0.at 20 rfl) (by decide) ?_
  refine sw_icmpN_ge u 25 (tgt := 61) (dX9_lays_0.at 21 rfl) (by decide) hv.1 (by decide) (fun q => ?_) (fun q => ?_)
  · replace hv := hv.2.1 q
    refine sw_aload_n (dX9_lays_0.at 35 rfl) rfl rfl ?_
    refine sw_getR (dX9_lays_0.at 36 rfl) fp_X9_32 (S_lt 49 (by decide)) (S_49 nw nx g) rfl rfl ?_
    refine sw_iconst (dX9_lays_0.at 37 rfl) ?_
    refine sw_iconst (dX9_lays_0.at 38 rfl) ?_
    refine sw_iastN 0 (dX9_lays_0.at 39 rfl) (S_lt 56 (by decide)) (S_56 nw nx g) (by decide) (by decide) ?_
    refine SW.cg (M' := (S nw nx g, 78 + gn, (lm c im bh ah (uN lo 0 0) fr la bk mo sp mm nn tp hb))) (congrArg (fun m => (S nw nx g, 78 + gn, m)) lm_a56) ?_
    refine sw_aload_n (dX9_lays_0.at 40 rfl) rfl rfl ?_
    refine sw_iconst (dX9_lays_0.at 41 rfl) ?_
    refine sw_putI (dX9_lays_0.at 42 rfl) fp_X9_196 (S_lt 49 (by decide)) (S_49 nw nx g) rfl ?_
    refine SW.cg (M' := (S nw nx g, 78 + gn, (lm c im bh ah (uN lo 0 0) fr la bk mo sp mm 1 tp hb))) (congrArg (fun m => (S nw nx g, 78 + gn, m)) lm_22) ?_
    refine sw_iconst (dX9_lays_0.at 43 rfl) ?_
    refine sw_istore_n (lo' := [some (vr (49)), some (vi (0)), none, none]) (dX9_lays_0.at 44 rfl) rfl (by decide) rfl ?_
    exact hv
  · replace hv := hv.2.2 q
    refine sw_aload_n (dX9_lays_0.at 22 rfl) rfl rfl ?_
    refine sw_getR (dX9_lays_0.at 23 rfl) fp_X9_23 (S_lt 49 (by decide)) (S_49 nw nx g) rfl rfl ?_
    refine sw_iload_n (dX9_lays_0.at 24 rfl) rfl rfl ?_
    refine sw_iload_n (dX9_lays_0.at 25 rfl) rfl rfl ?_
    refine sw_bipush (dX9_lays_0.at 26 rfl) (by decide) ?_
    refine sw_iremN u 6 (dX9_lays_0.at 27 rfl) (by decide) (by decide) hv.1 ?_
    replace hv := hv.2
    refine sw_ifN_ne (u % 6) (tgt := 53) (dX9_lays_0.at 28 rfl) (by decide) hv.1 (fun q => ?_) (fun q => ?_)
    · replace hv := hv.2.1 q
      refine sw_iconst (dX9_lays_0.at 31 rfl) ?_
      refine sw_iastN u (dX9_lays_0.at 32 rfl) (S_lt 53 (by decide)) (S_53 nw nx g) (by decide) hv.1 ?_
      refine SW.cg (M' := (S nw nx g, 78 + gn, (lm c (uN im u 0) bh ah lo fr la bk mo sp mm nn tp hb))) (congrArg (fun m => (S nw nx g, 78 + gn, m)) lm_a53) ?_
      replace hv := hv.2
      refine sw_iinc (lo' := [some (vr (49)), some (vi (((u + 1 : Nat) : Int))), none, none]) (dX9_lays_0.at 33 rfl) rfl (by decide) rfl ?_
      refine sw_goto (tgt := 31) (dX9_lays_0.at 34 rfl) (by decide) ?_
      exact hv
    · replace hv := hv.2.2 q
      refine sw_iconst (dX9_lays_0.at 29 rfl) ?_
      refine sw_goto (tgt := 54) (dX9_lays_0.at 30 rfl) (by decide) ?_
      refine sw_iastN u (dX9_lays_0.at 32 rfl) (S_lt 53 (by decide)) (S_53 nw nx g) (by decide) hv.1 ?_
      refine SW.cg (M' := (S nw nx g, 78 + gn, (lm c (uN im u 1) bh ah lo fr la bk mo sp mm nn tp hb))) (congrArg (fun m => (S nw nx g, 78 + gn, m)) lm_a53) ?_
      replace hv := hv.2
      refine sw_iinc (lo' := [some (vr (49)), some (vi (((u + 1 : Nat) : Int))), none, none]) (dX9_lays_0.at 33 rfl) rfl (by decide) rfl ?_
      refine sw_goto (tgt := 31) (dX9_lays_0.at 34 rfl) (by decide) ?_
      exact hv

set_option maxHeartbeats 2000000 in
set_option maxRecDepth 20000 in
theorem g_X9_lays_75 {G : GG} {j nw nx gn : Nat} {g : Nat → Sh} {c : Nat → Nat → Int} {post : Option AV → AM → Prop} {r : Nat} {ln : Nat} {bo : Nat → Nat} {im : Nat → Nat} {bh : Nat → Nat} {ah : Nat → Nat} {lo : Nat → Nat} {fr : Nat → Nat} {la : Nat → Nat} {bk : Nat → Nat} {mo : Nat → Nat} {sp : Nat → Int} {mm : Nat} {nn : Nat} {tp : Nat} {hb : Bool} {x : Nat} (hR : c 49 4 = ((r : Nat) : Int)) (hL : c 49 5 = ((ln : Nat) : Int)) (hBo : ∀ i, i < 25 → c 51 i = ((bo i : Nat) : Int))  (hv : (x < 2147483648) ∧ (nn < 2147483648) ∧ (((nn ≤ x) → SW G (j + 5) mX9_lays 208 [some (vr (49)), none, none, none] [] (S nw nx g, 78 + gn, (lm c im bh ah lo fr la bk mo sp mm nn tp hb)) B0 post) ∧ ((¬ (nn ≤ x)) → SW G (j + 5) mX9_lays 85 [some (vr (49)), some (vi (((x : Nat) : Int))), some (vi (0)), none] [] (S nw nx g, 78 + gn, (lm c im bh ah lo fr la bk mo sp mm nn tp hb)) B0 post))) :
    SW G (j + 5) mX9_lays 75 [some (vr (49)), some (vi (((x : Nat) : Int))), none, none] [] (S nw nx g, 78 + gn, (lm c im bh ah lo fr la bk mo sp mm nn tp hb)) B0 post := by
  refine sw_iload_n (dX9_lays_0.at 45 rfl) rfl rfl ?_
  refine sw_aload_n (dX9_lays_0.at 46 rfl) rfl rfl ?_
  refine sw_getIE (w := ((nn : Nat) : Int)) (dX9_lays_0.at 47 rfl) fp_X9_196 (S_lt 49 (by decide)) (S_49 nw nx g) rfl rfl ?_
  refine sw_icmpN_ge x nn (tgt := 208) (dX9_lays_0.at 48 rfl) (by decide) hv.1 hv.2.1 (fun q => ?_) (fun q => ?_)
  · replace hv := hv.2.2.1 q
    exact sw_mask (bs := [true, false, false, false]) hv
  · replace hv := hv.2.2.2 q
    refine sw_iconst (dX9_lays_0.at 49 rfl) ?_
    refine sw_istore_n (lo' := [some (vr (49)), some (vi (((x : Nat) : Int))), some (vi (0)), none]) (dX9_lays_1.at 0 rfl) rfl (by decide) rfl ?_
    exact hv

set_option maxHeartbeats 2000000 in
set_option maxRecDepth 20000 in
theorem g_X9_lays_85 {G : GG} {j nw nx gn : Nat} {g : Nat → Sh} {c : Nat → Nat → Int} {post : Option AV → AM → Prop} {r : Nat} {ln : Nat} {bo : Nat → Nat} {im : Nat → Nat} {bh : Nat → Nat} {ah : Nat → Nat} {lo : Nat → Nat} {fr : Nat → Nat} {la : Nat → Nat} {bk : Nat → Nat} {mo : Nat → Nat} {sp : Nat → Int} {mm : Nat} {nn : Nat} {tp : Nat} {hb : Bool} {x : Nat} {s : Nat} (hR : c 49 4 = ((r : Nat) : Int)) (hL : c 49 5 = ((ln : Nat) : Int)) (hBo : ∀ i, i < 25 → c 51 i = ((bo i : Nat) : Int))  (hv : (s < 2147483648) ∧ (r < 2147483648) ∧ (((r ≤ s) → SW G (j + 5) mX9_lays 75 [some (vr (49)), some (vi (((x + 1 : Nat) : Int))), none, none] [] (S nw nx g, 78 + gn, (lm c im bh ah lo fr la bk mo sp mm nn tp hb)) B0 post) ∧ ((¬ (r ≤ s)) → (r ≤ 5) ∧ (x < nn) ∧ (nn ≤ 60) ∧ (s < r) ∧ (∀ q, q < r → q ≠ s → 2 ≤ bo (5 * s + q) ∧ bo (5 * s + q) ≤ 12) ∧ (∀ z q i, z < nn → q < r → i < r → im (25 * z + 5 * q + i) < 55441) ∧ (∀ (im_1 : Nat → Nat), (PUT r bo im im_1 x s nn) → SW G (j + 5) mX9_lays 105 [some (vr (49)), some (vi (((x : Nat) : Int))), some (vi (((s : Nat) : Int))), some (vi (0))] [] (S nw nx g, 78 + gn, (lm c im_1 bh ah lo fr la bk mo sp mm nn tp hb)) B0 post)))) :
    SW G (j + 5) mX9_lays 85 [some (vr (49)), some (vi (((x : Nat) : Int))), some (vi (((s : Nat) : Int))), none] [] (S nw nx g, 78 + gn, (lm c im bh ah lo fr la bk mo sp mm nn tp hb)) B0 post := by
  refine sw_iload_n (dX9_lays_1.at 1 rfl) rfl rfl ?_
  refine sw_aload_n (dX9_lays_1.at 2 rfl) rfl rfl ?_
  refine sw_getIE (w := ((r : Nat) : Int)) (dX9_lays_1.at 3 rfl) fp_X9_159 (S_lt 49 (by decide)) (S_49 nw nx g) rfl hR ?_
  refine sw_icmpN_ge s r (tgt := 202) (dX9_lays_1.at 4 rfl) (by decide) hv.1 hv.2.1 (fun q => ?_) (fun q => ?_)
  · replace hv := hv.2.2.1 q
    refine sw_iinc (lo' := [some (vr (49)), some (vi (((x + 1 : Nat) : Int))), some (vi (((s : Nat) : Int))), none]) (dX9_lays_2.at 21 rfl) rfl (by decide) rfl ?_
    refine sw_goto (tgt := 75) (dX9_lays_2.at 22 rfl) (by decide) ?_
    exact sw_mask (bs := [true, true, false, false]) hv
  · replace hv := hv.2.2.2 q
    refine sw_aload_n (dX9_lays_1.at 5 rfl) rfl rfl ?_
    refine sw_iload_n (dX9_lays_1.at 6 rfl) rfl rfl ?_
    refine sw_iload_n (dX9_lays_1.at 7 rfl) rfl rfl ?_
    refine sw_aload_n (dX9_lays_1.at 8 rfl) rfl rfl ?_
    refine sw_getIE (w := ((nn : Nat) : Int)) (dX9_lays_1.at 9 rfl) fp_X9_196 (S_lt 49 (by decide)) (S_49 nw nx g) rfl rfl ?_
    refine sw_callV (B' := B0) (As := [vi (((x : Nat) : Int)), vi (((s : Nat) : Int)), vi (((nn : Nat) : Int))]) (mc := 0) (ms := 0) (dX9_lays_1.at 10 rfl) lk_X9_221 (S_lt 49 (by decide)) (S_49 nw nx g) rfl rfl (Nat.le_of_ble_eq_true rfl) rfl (Nat.le_refl _) (Nat.le_refl _) ?_
    refine c_X9_puts (x := x) (s := s) (d := nn) (j := j + 4) hR hL hBo hv.1 hv.2.1 hv.2.2.1 hv.2.2.2.1 hv.2.2.2.2.1 hv.2.2.2.2.2.1 (fun im_1 q2 => ?_) 
    · replace hv := hv.2.2.2.2.2.2 im_1 q2
      refine sw_iconst (dX9_lays_1.at 11 rfl) ?_
      refine sw_istore_n (lo' := [some (vr (49)), some (vi (((x : Nat) : Int))), some (vi (((s : Nat) : Int))), some (vi (0))]) (dX9_lays_1.at 12 rfl) rfl (by decide) rfl ?_
      exact hv

set_option maxHeartbeats 2000000 in
set_option maxRecDepth 20000 in
theorem g_X9_lays_105 {G : GG} {j nw nx gn : Nat} {g : Nat → Sh} {c : Nat → Nat → Int} {post : Option AV → AM → Prop} {r : Nat} {ln : Nat} {bo : Nat → Nat} {im : Nat → Nat} {bh : Nat → Nat} {ah : Nat → Nat} {lo : Nat → Nat} {fr : Nat → Nat} {la : Nat → Nat} {bk : Nat → Nat} {mo : Nat → Nat} {sp : Nat → Int} {mm : Nat} {nn : Nat} {tp : Nat} {hb : Bool} {x : Nat} {s : Nat} {y : Nat} (hR : c 49 4 = ((r : Nat) : Int)) (hL : c 49 5 = ((ln : Nat) : Int)) (hBo : ∀ i, i < 25 → c 51 i = ((bo i : Nat) : Int))  (hv : (y < 2147483648) ∧ (nn < 2147483648) ∧ (((nn ≤ y) → SW G (j + 5) mX9_lays 131 [some (vr (49)), some (vi (((x : Nat) : Int))), some (vi (((s : Nat) : Int))), some (vi (((y : Nat) : Int)))] [] (S nw nx g, 78 + gn, (lm c im bh ah lo fr la bk mo sp mm nn tp hb)) B0 post) ∧ ((¬ (nn ≤ y)) → (r ≤ 5) ∧ (y ≤ 60) ∧ (nn ≤ 60) ∧ (∀ q i, q < r → i < r → im (25 * y + 5 * q + i) < 55441 ∧ im (25 * nn + 5 * q + i) < 55441) ∧ ((SAM r im y nn) → SW G (j + 5) mX9_lays 131 [some (vr (49)), some (vi (((x : Nat) : Int))), some (vi (((s : Nat) : Int))), some (vi (((y : Nat) : Int)))] [] (S nw nx g, 78 + gn, (lm c im bh ah lo fr la bk mo sp mm nn tp hb)) B0 post) ∧ ((¬ SAM r im y nn) → SW G (j + 5) mX9_lays 105 [some (vr (49)), some (vi (((x : Nat) : Int))), some (vi (((s : Nat) : Int))), some (vi (((y + 1 : Nat) : Int)))] [] (S nw nx g, 78 + gn, (lm c im bh ah lo fr la bk mo sp mm nn tp hb)) B0 post)))) :
    SW G (j + 5) mX9_lays 105 [some (vr (49)), some (vi (((x : Nat) : Int))), some (vi (((s : Nat) : Int))), some (vi (((y : Nat) : Int)))] [] (S nw nx g, 78 + gn, (lm c im bh ah lo fr la bk mo sp mm nn tp hb)) B0 post := by
  refine sw_iload_n (dX9_lays_1.at 13 rfl) rfl rfl ?_
  refine sw_aload_n (dX9_lays_1.at 14 rfl) rfl rfl ?_
  refine sw_getIE (w := ((nn : Nat) : Int)) (dX9_lays_1.at 15 rfl) fp_X9_196 (S_lt 49 (by decide)) (S_49 nw nx g) rfl rfl ?_
  refine sw_icmpN_ge y nn (tgt := 131) (dX9_lays_1.at 16 rfl) (by decide) hv.1 hv.2.1 (fun q => ?_) (fun q => ?_)
  · replace hv := hv.2.2.1 q
    exact hv
  · replace hv := hv.2.2.2 q
    refine sw_aload_n (dX9_lays_1.at 17 rfl) rfl rfl ?_
    refine sw_iload_n (dX9_lays_1.at 18 rfl) rfl rfl ?_
    refine sw_aload_n (dX9_lays_1.at 19 rfl) rfl rfl ?_
    refine sw_getIE (w := ((nn : Nat) : Int)) (dX9_lays_1.at 20 rfl) fp_X9_196 (S_lt 49 (by decide)) (S_49 nw nx g) rfl rfl ?_
    refine sw_callV (B' := B0) (As := [vi (((y : Nat) : Int)), vi (((nn : Nat) : Int))]) (mc := 0) (ms := 0) (dX9_lays_1.at 21 rfl) lk_X9_225 (S_lt 49 (by decide)) (S_49 nw nx g) rfl rfl (Nat.le_of_ble_eq_true rfl) rfl (Nat.le_refl _) (Nat.le_refl _) ?_
    refine c_X9_isSame (x := y) (d := nn) (j := j + 4) hR hL hBo hv.1 hv.2.1 hv.2.2.1 hv.2.2.2.1 (fun q => ?_) (fun q => ?_) 
    · replace hv := hv.2.2.2.2.1 q
      refine sw_if_ne (tgt := 131) (dX9_lays_1.at 22 rfl) (by decide) (by decide) (fun q => ?_) (fun q => ?_)
      · clear q
        exact hv
      · exact absurd q (by decide)
    · replace hv := hv.2.2.2.2.2 q
      refine sw_if_ne (tgt := 131) (dX9_lays_1.at 22 rfl) (by decide) (by decide) (fun q => ?_) (fun q => ?_)
      · exact absurd q (by decide)
      · clear q
        refine sw_iinc (lo' := [some (vr (49)), some (vi (((x : Nat) : Int))), some (vi (((s : Nat) : Int))), some (vi (((y + 1 : Nat) : Int)))]) (dX9_lays_1.at 23 rfl) rfl (by decide) rfl ?_
        refine sw_goto (tgt := 105) (dX9_lays_1.at 24 rfl) (by decide) ?_
        exact hv

set_option maxHeartbeats 2000000 in
set_option maxRecDepth 20000 in
theorem g_X9_lays_131 {G : GG} {j nw nx gn : Nat} {g : Nat → Sh} {c : Nat → Nat → Int} {post : Option AV → AM → Prop} {r : Nat} {ln : Nat} {bo : Nat → Nat} {im : Nat → Nat} {bh : Nat → Nat} {ah : Nat → Nat} {lo : Nat → Nat} {fr : Nat → Nat} {la : Nat → Nat} {bk : Nat → Nat} {mo : Nat → Nat} {sp : Nat → Int} {mm : Nat} {nn : Nat} {tp : Nat} {hb : Bool} {x : Nat} {s : Nat} {y : Nat} (hR : c 49 4 = ((r : Nat) : Int)) (hL : c 49 5 = ((ln : Nat) : Int)) (hBo : ∀ i, i < 25 → c 51 i = ((bo i : Nat) : Int))  (hv : (y < 2147483648) ∧ (((y ≠ 60) → (y < 2147483648) ∧ (nn < 2147483648) ∧ (((y ≠ nn) → ((5 * x) + s < 300) ∧ (SW G (j + 5) mX9_lays 85 [some (vr (49)), some (vi (((x : Nat) : Int))), some (vi (((s + 1 : Nat) : Int))), none] [] (S nw nx g, 78 + gn, (lm c im (uN bh ((5 * x) + s) y) ah lo fr la bk mo sp mm nn tp hb)) B0 post)) ∧ ((y = nn) → (x < 60) ∧ ((y < 60) ∧ ((y < 60) ∧ ((y < 60) ∧ (((5 * x) + s < 300) ∧ (SW G (j + 5) mX9_lays 85 [some (vr (49)), some (vi (((x : Nat) : Int))), some (vi (((s + 1 : Nat) : Int))), none] [] (S nw nx g, 78 + gn, (lm c im (uN bh ((5 * x) + s) y) ah (uN lo y ((lo x) + 1)) (uN fr y x) (uN la y s) bk mo sp mm (nn + 1) tp hb)) B0 post)))))))) ∧ ((y = 60) → post (some (vi (0))) (S nw nx g, 78 + gn, (lm c im bh ah lo fr la bk mo sp mm nn tp hb))))) :
    SW G (j + 5) mX9_lays 131 [some (vr (49)), some (vi (((x : Nat) : Int))), some (vi (((s : Nat) : Int))), some (vi (((y : Nat) : Int)))] [] (S nw nx g, 78 + gn, (lm c im bh ah lo fr la bk mo sp mm nn tp hb)) B0 post := by
  refine sw_iload_n (dX9_lays_1.at 25 rfl) rfl rfl ?_
  refine sw_bipush (dX9_lays_1.at 26 rfl) (by decide) ?_
  refine sw_icmpN_ne y 60 (tgt := 139) (dX9_lays_1.at 27 rfl) (by decide) hv.1 (by decide) (fun q => ?_) (fun q => ?_)
  · replace hv := hv.2.1 q
    refine sw_iload_n (dX9_lays_1.at 30 rfl) rfl rfl ?_
    refine sw_aload_n (dX9_lays_1.at 31 rfl) rfl rfl ?_
    refine sw_getIE (w := ((nn : Nat) : Int)) (dX9_lays_1.at 32 rfl) fp_X9_196 (S_lt 49 (by decide)) (S_49 nw nx g) rfl rfl ?_
    refine sw_icmpN_ne y nn (tgt := 185) (dX9_lays_1.at 33 rfl) (by decide) hv.1 hv.2.1 (fun q => ?_) (fun q => ?_)
    · replace hv := hv.2.2.1 q
      refine sw_aload_n (dX9_lays_2.at 10 rfl) rfl rfl ?_
      refine sw_getR (dX9_lays_2.at 11 rfl) fp_X9_26 (S_lt 49 (by decide)) (S_49 nw nx g) rfl rfl ?_
      refine sw_iconst (dX9_lays_2.at 12 rfl) ?_
      refine sw_iload_n (dX9_lays_2.at 13 rfl) rfl rfl ?_
      refine sw_imul (dX9_lays_2.at 14 rfl) ?_
      refine sw_topI (y := ((5 * x : Nat) : Int)) (by first | rfl | (congr 1)) ?_
      refine sw_iload_n (dX9_lays_2.at 15 rfl) rfl rfl ?_
      refine sw_iadd (dX9_lays_2.at 16 rfl) ?_
      refine sw_topI (y := (((5 * x) + s : Nat) : Int)) (by first | rfl | (congr 1)) ?_
      refine sw_iload_n (dX9_lays_2.at 17 rfl) rfl rfl ?_
      refine sw_iastN ((5 * x) + s) (dX9_lays_2.at 18 rfl) (S_lt 54 (by decide)) (S_54 nw nx g) (by decide) hv.1 ?_
      refine SW.cg (M' := (S nw nx g, 78 + gn, (lm c im (uN bh ((5 * x) + s) y) ah lo fr la bk mo sp mm nn tp hb))) (congrArg (fun m => (S nw nx g, 78 + gn, m)) lm_a54) ?_
      replace hv := hv.2
      refine sw_iinc (lo' := [some (vr (49)), some (vi (((x : Nat) : Int))), some (vi (((s + 1 : Nat) : Int))), some (vi (((y : Nat) : Int)))]) (dX9_lays_2.at 19 rfl) rfl (by decide) rfl ?_
      refine sw_goto (tgt := 85) (dX9_lays_2.at 20 rfl) (by decide) ?_
      exact sw_mask (bs := [true, true, true, false]) hv
    · replace hv := hv.2.2.2 q
      refine sw_aload_n (dX9_lays_1.at 34 rfl) rfl rfl ?_
      refine sw_getR (dX9_lays_1.at 35 rfl) fp_X9_32 (S_lt 49 (by decide)) (S_49 nw nx g) rfl rfl ?_
      refine sw_iload_n (dX9_lays_1.at 36 rfl) rfl rfl ?_
      refine sw_aload_n (dX9_lays_1.at 37 rfl) rfl rfl ?_
      refine sw_getR (dX9_lays_1.at 38 rfl) fp_X9_32 (S_lt 49 (by decide)) (S_49 nw nx g) rfl rfl ?_
      refine sw_iload_n (dX9_lays_1.at 39 rfl) rfl rfl ?_
      refine sw_ialdN x (w := ((lo x : Nat) : Int)) (dX9_lays_1.at 40 rfl) (S_lt 56 (by decide)) (S_56 nw nx g) (by decide) hv.1 rfl ?_
      replace hv := hv.2
      refine sw_iconst (dX9_lays_1.at 41 rfl) ?_
      refine sw_iadd (dX9_lays_1.at 42 rfl) ?_
      refine sw_topI (y := (((lo x) + 1 : Nat) : Int)) (by first | rfl | (congr 1)) ?_
      refine sw_iastN y (dX9_lays_1.at 43 rfl) (S_lt 56 (by decide)) (S_56 nw nx g) (by decide) hv.1 ?_
      refine SW.cg (M' := (S nw nx g, 78 + gn, (lm c im bh ah (uN lo y ((lo x) + 1)) fr la bk mo sp mm nn tp hb))) (congrArg (fun m => (S nw nx g, 78 + gn, m)) lm_a56) ?_
      replace hv := hv.2
      refine sw_aload_n (dX9_lays_1.at 44 rfl) rfl rfl ?_
      refine sw_getR (dX9_lays_1.at 45 rfl) fp_X9_35 (S_lt 49 (by decide)) (S_49 nw nx g) rfl rfl ?_
      refine sw_iload_n (dX9_lays_1.at 46 rfl) rfl rfl ?_
      refine sw_iload_n (dX9_lays_1.at 47 rfl) rfl rfl ?_
      refine sw_iastN y (dX9_lays_1.at 48 rfl) (S_lt 57 (by decide)) (S_57 nw nx g) (by decide) hv.1 ?_
      refine SW.cg (M' := (S nw nx g, 78 + gn, (lm c im bh ah (uN lo y ((lo x) + 1)) (uN fr y x) la bk mo sp mm nn tp hb))) (congrArg (fun m => (S nw nx g, 78 + gn, m)) lm_a57) ?_
      replace hv := hv.2
      refine sw_aload_n (dX9_lays_1.at 49 rfl) rfl rfl ?_
      refine sw_getR (dX9_lays_2.at 0 rfl) fp_X9_38 (S_lt 49 (by decide)) (S_49 nw nx g) rfl rfl ?_
      refine sw_iload_n (dX9_lays_2.at 1 rfl) rfl rfl ?_
      refine sw_iload_n (dX9_lays_2.at 2 rfl) rfl rfl ?_
      refine sw_iastN y (dX9_lays_2.at 3 rfl) (S_lt 58 (by decide)) (S_58 nw nx g) (by decide) hv.1 ?_
      refine SW.cg (M' := (S nw nx g, 78 + gn, (lm c im bh ah (uN lo y ((lo x) + 1)) (uN fr y x) (uN la y s) bk mo sp mm nn tp hb))) (congrArg (fun m => (S nw nx g, 78 + gn, m)) lm_a58) ?_
      replace hv := hv.2
      refine sw_aload_n (dX9_lays_2.at 4 rfl) rfl rfl ?_
      refine sw_dup (dX9_lays_2.at 5 rfl) (fun _ h => by cases h) ?_
      refine sw_getIE (w := ((nn : Nat) : Int)) (dX9_lays_2.at 6 rfl) fp_X9_196 (S_lt 49 (by decide)) (S_49 nw nx g) rfl rfl ?_
      refine sw_iconst (dX9_lays_2.at 7 rfl) ?_
      refine sw_iadd (dX9_lays_2.at 8 rfl) ?_
      refine sw_topI (y := ((nn + 1 : Nat) : Int)) (by first | rfl | (congr 1)) ?_
      refine sw_putI (dX9_lays_2.at 9 rfl) fp_X9_196 (S_lt 49 (by decide)) (S_49 nw nx g) rfl ?_
      refine SW.cg (M' := (S nw nx g, 78 + gn, (lm c im bh ah (uN lo y ((lo x) + 1)) (uN fr y x) (uN la y s) bk mo sp mm (nn + 1) tp hb))) (congrArg (fun m => (S nw nx g, 78 + gn, m)) lm_22) ?_
      refine sw_aload_n (dX9_lays_2.at 10 rfl) rfl rfl ?_
      refine sw_getR (dX9_lays_2.at 11 rfl) fp_X9_26 (S_lt 49 (by decide)) (S_49 nw nx g) rfl rfl ?_
      refine sw_iconst (dX9_lays_2.at 12 rfl) ?_
      refine sw_iload_n (dX9_lays_2.at 13 rfl) rfl rfl ?_
      refine sw_imul (dX9_lays_2.at 14 rfl) ?_
      refine sw_topI (y := ((5 * x : Nat) : Int)) (by first | rfl | (congr 1)) ?_
      refine sw_iload_n (dX9_lays_2.at 15 rfl) rfl rfl ?_
      refine sw_iadd (dX9_lays_2.at 16 rfl) ?_
      refine sw_topI (y := (((5 * x) + s : Nat) : Int)) (by first | rfl | (congr 1)) ?_
      refine sw_iload_n (dX9_lays_2.at 17 rfl) rfl rfl ?_
      refine sw_iastN ((5 * x) + s) (dX9_lays_2.at 18 rfl) (S_lt 54 (by decide)) (S_54 nw nx g) (by decide) hv.1 ?_
      refine SW.cg (M' := (S nw nx g, 78 + gn, (lm c im (uN bh ((5 * x) + s) y) ah (uN lo y ((lo x) + 1)) (uN fr y x) (uN la y s) bk mo sp mm (nn + 1) tp hb))) (congrArg (fun m => (S nw nx g, 78 + gn, m)) lm_a54) ?_
      replace hv := hv.2
      refine sw_iinc (lo' := [some (vr (49)), some (vi (((x : Nat) : Int))), some (vi (((s + 1 : Nat) : Int))), some (vi (((y : Nat) : Int)))]) (dX9_lays_2.at 19 rfl) rfl (by decide) rfl ?_
      refine sw_goto (tgt := 85) (dX9_lays_2.at 20 rfl) (by decide) ?_
      exact sw_mask (bs := [true, true, true, false]) hv
  · replace hv := hv.2.2 q
    refine sw_iconst (dX9_lays_1.at 28 rfl) ?_
    exact sw_zret (dX9_lays_1.at 29 rfl) rfl (by decide) (Nat.le_refl _) (Nat.le_refl _) hv

set_option maxHeartbeats 4000000 in
theorem lp_X9_lays_105 {G : GG} {j nw nx gn : Nat} {g : Nat → Sh} {c : Nat → Nat → Int} {post : Option AV → AM → Prop} {r : Nat} {ln : Nat} {bo : Nat → Nat} {im : Nat → Nat} {bh : Nat → Nat} {ah : Nat → Nat} {lo : Nat → Nat} {fr : Nat → Nat} {la : Nat → Nat} {bk : Nat → Nat} {mo : Nat → Nat} {sp : Nat → Int} {mm : Nat} {nn : Nat} {tp : Nat} {hb : Bool} {x s : Nat} (hR : c 49 4 = ((r : Nat) : Int)) (hL : c 49 5 = ((ln : Nat) : Int)) (hBo : ∀ i, i < 25 → c 51 i = ((bo i : Nat) : Int)) (hr : r ≤ 5) (hn : nn ≤ 60) (hI : ∀ z q i, z < nn → q < r → i < r → im (25 * z + 5 * q + i) < 55441) (hI2 : ∀ q i, q < r → i < r → im (25 * nn + 5 * q + i) < 55441) (K : ∀ y, y ≤ nn → (∀ z, z < y → ¬ SAM r im z nn) → (y = nn ∨ SAM r im y nn) → SW G (j + 5) mX9_lays 131 [some (vr (49)), some (vi (((x : Nat) : Int))), some (vi (((s : Nat) : Int))), some (vi (((y : Nat) : Int)))] [] (S nw nx g, 78 + gn, (lm c im bh ah lo fr la bk mo sp mm nn tp hb)) B0 post) : ∀ k y, y + k = nn → (∀ z, z < y → ¬ SAM r im z nn) → SW G (j + 5) mX9_lays 105 [some (vr (49)), some (vi (((x : Nat) : Int))), some (vi (((s : Nat) : Int))), some (vi (((y : Nat) : Int)))] [] (S nw nx g, 78 + gn, (lm c im bh ah lo fr la bk mo sp mm nn tp hb)) B0 post := by
  intro k
  induction k with
  | zero =>
    intro y hy h
    refine g_X9_lays_105 hR hL hBo ?_
    refine ⟨?_, ?_, ⟨fun q => ?_, fun q => ⟨?_, ?_, ?_, ?_, fun q => ?_, fun q => ?_⟩⟩⟩
    all_goals first | omega | (exfalso; omega) | exact K y (by omega) h (Or.inl (by omega))
  | succ k ih =>
    intro y hy h
    have hb : ∀ q i, q < r → i < r → im (25 * y + 5 * q + i) < 55441 ∧ im (25 * nn + 5 * q + i) < 55441 := fun q i hq hi => ⟨hI y q i (by omega) hq hi, hI2 q i hq hi⟩
    refine g_X9_lays_105 hR hL hBo ?_
    by_cases e : SAM r im y nn
    · refine ⟨?_, ?_, ⟨fun q => ?_, fun q => ⟨?_, ?_, ?_, ?_, fun q => ?_, fun q => ?_⟩⟩⟩
      all_goals first | omega | assumption | (exfalso; omega) | exact K y (by omega) h (Or.inr e) | (exfalso; contradiction)
    · refine ⟨?_, ?_, ⟨fun q => ?_, fun q => ⟨?_, ?_, ?_, ?_, fun q => ?_, fun q => ?_⟩⟩⟩
      all_goals first | omega | assumption | (exfalso; omega) | (refine ih _ (by omega) (fun z hz => ?_); by_cases e2 : z = y; (rw [e2]; exact e); exact h z (by omega)) | (exfalso; contradiction)
theorem lp_X9_lays_31 {G : GG} {j nw nx gn : Nat} {g : Nat → Sh} {c : Nat → Nat → Int} {post : Option AV → AM → Prop} {r : Nat} {ln : Nat} {bo : Nat → Nat} {im : Nat → Nat} {bh : Nat → Nat} {ah : Nat → Nat} {lo : Nat → Nat} {fr : Nat → Nat} {la : Nat → Nat} {bk : Nat → Nat} {mo : Nat → Nat} {sp : Nat → Int} {mm : Nat} {nn : Nat} {tp : Nat} {hb : Bool} (hR : c 49 4 = ((r : Nat) : Int)) (hL : c 49 5 = ((ln : Nat) : Int)) (hBo : ∀ i, i < 25 → c 51 i = ((bo i : Nat) : Int)) (K : ∀ (im2 lo2 : Nat → Nat), (∀ k, k < 25 → im2 k = if k % 6 = 0 then 1 else 0) → lo2 0 = 0 → SW G (j + 5) mX9_lays 75 [some (vr (49)), some (vi (0)), none, none] [] (S nw nx g, 78 + gn, (lm c im2 bh ah lo2 fr la bk mo sp mm 1 tp hb)) B0 post) : ∀ (k u : Nat) (im : Nat → Nat), u + k = 25 → (∀ q, q < u → im q = if q % 6 = 0 then 1 else 0) → SW G (j + 5) mX9_lays 31 [some (vr (49)), some (vi (((u : Nat) : Int))), none, none] [] (S nw nx g, 78 + gn, (lm c im bh ah lo fr la bk mo sp mm nn tp hb)) B0 post := by
  intro k
  induction k with
  | zero =>
    intro u im hu h
    refine g_X9_lays_31 hR hL hBo ?_
    refine ⟨?_, ⟨fun q => ?_, fun q => ⟨?_, ⟨?_, ⟨fun q => ⟨?_, ?_⟩, fun q => ⟨?_, ?_⟩⟩⟩⟩⟩⟩
    all_goals first | omega | (exfalso; omega) | exact K im _ (fun q hq => h q (by omega)) (by rw [uN, if_pos rfl])
  | succ k ih =>
    intro u im hu h
    refine g_X9_lays_31 hR hL hBo ?_
    refine ⟨?_, ⟨fun q => ?_, fun q => ⟨?_, ⟨?_, ⟨fun q => ⟨?_, ?_⟩, fun q => ⟨?_, ?_⟩⟩⟩⟩⟩⟩
    all_goals first | omega | (exfalso; omega) | (refine ih _ _ (by omega) (fun q hq => ?_); by_cases e : q = u; (subst e; rw [uN, if_pos rfl]; first | rw [if_pos (by omega)] | rw [if_neg (by omega)]); (rw [uN, if_neg e]; exact h q (by omega)))
/-- nn blocks, the first one the identity, closed under all letters -/
def CLO (r : Nat) (bo im : Nat → Nat) (nn x s : Nat) : Prop := (∀ q i, q < r → i < r → im (5 * q + i) = if q = i then 1 else 0) ∧ (∀ z q i, z < nn → q < r → i < r → im (25 * z + 5 * q + i) < 55441) ∧ ∀ x2 s2, s2 < r → (x2 < x ∨ (x2 = x ∧ s2 < s)) → ∃ y, y < nn ∧ ∀ q i, q < r → i < r → im (25 * y + 5 * q + i) = stp bo im x2 s2 q i
theorem stp_lt (bo im : Nat → Nat) (x s q i : Nat) : stp bo im x s q i < 55441 := Nat.mod_lt _ (by decide)
theorem CLO_grow {r : Nat} {bo im im2 : Nat → Nat} {nn x s y : Nat} (hr : r ≤ 5) (hx : x < nn) (hs : s < r) (h : CLO r bo im nn x s) (hp : PUT r bo im im2 x s nn) (hy : y ≤ nn) (hf : y = nn ∨ SAM r im2 y nn) : ∀ m, (m = nn ∧ y < nn) ∨ (m = nn + 1 ∧ y = nn) → CLO r bo im2 m x (s + 1) := by
  intro m hm
  obtain ⟨h1, h2, h3⟩ := h
  have es : ∀ x2 s2 q i, x2 < nn → s2 < r → q < r → i < r → stp bo im2 x2 s2 q i = stp bo im x2 s2 q i := by
    intro x2 s2 q i a b c d
    rw [stp, stp, hp.1 _ (by omega), hp.1 _ (by omega)]
  refine ⟨fun q i hq hi => ?_, fun z q i hz hq hi => ?_, fun x2 s2 hs2 hx2 => ?_⟩
  · rw [hp.1 _ (by omega)]; exact h1 q i hq hi
  · by_cases e : z < nn
    · rw [hp.1 _ (by omega)]; exact h2 z q i e hq hi
    · have e2 : z = nn := by omega
      rw [e2, hp.2 q i hq hi]
      exact stp_lt _ _ _ _ _ _
  · by_cases e : x2 < x ∨ (x2 = x ∧ s2 < s)
    · obtain ⟨y2, a, b⟩ := h3 x2 s2 hs2 e
      refine ⟨y2, by omega, fun q i hq hi => ?_⟩
      rw [hp.1 _ (by omega), es x2 s2 q i (by omega) hs2 hq hi]
      exact b q i hq hi
    · have e1 : x2 = x := by omega
      have e2 : s2 = s := by omega
      subst e1; subst e2
      refine ⟨y, by omega, fun q i hq hi => ?_⟩
      rw [es x2 s2 q i hx hs hq hi, ← hp.2 q i hq hi]
      rcases hf with e | e
      · rw [e]
      · exact e q i hq hi

/-- a table with more than 60 elements: no closed rows -/
def BAD (r : Nat) (bo : Nat → Nat) : Prop := ∀ (im : Nat → Nat) (nn : Nat), 1 ≤ nn → nn ≤ 60 → ¬ CLO r bo im nn nn 0
set_option maxHeartbeats 4000000 in
theorem lp_X9_lays_bad {G : GG} {j nw nx gn : Nat} {g : Nat → Sh} {c : Nat → Nat → Int} {post : Option AV → AM → Prop} {r : Nat} {ln : Nat} {bo : Nat → Nat} {ah bk mo : Nat → Nat} {sp : Nat → Int} (hR : c 49 4 = ((r : Nat) : Int)) (hL : c 49 5 = ((ln : Nat) : Int)) (hBo : ∀ i, i < 25 → c 51 i = ((bo i : Nat) : Int)) (hr : r ≤ 5) (hbo : ∀ s q, s < r → q < r → q ≠ s → 2 ≤ bo (5 * s + q) ∧ bo (5 * s + q) ≤ 12) (hB : BAD r bo) (K0 : ∀ (im bh lo fr la : Nat → Nat) (nn : Nat), post (some (vi 0)) (S nw nx g, 78 + gn, (lm c im bh ah lo fr la bk mo sp 0 nn 0 false))) : ∀ (k x : Nat) (im bh lo fr la : Nat → Nat) (nn : Nat), x + k = 61 → x ≤ nn → 1 ≤ nn → nn ≤ 60 → CLO r bo im nn x 0 → SW G (j + 5) mX9_lays 75 [some (vr (49)), some (vi (((x : Nat) : Int))), none, none] [] (S nw nx g, 78 + gn, (lm c im bh ah lo fr la bk mo sp 0 nn 0 false)) B0 post := by
  intro k
  induction k with
  | zero => intro x im bh lo fr la nn hx h1 h2 h3 hc; exfalso; omega
  | succ k ih =>
    intro x im bh lo fr la nn hx h1 h2 h3 hc
    refine g_X9_lays_75 hR hL hBo ?_
    by_cases e : x = nn
    · subst e
      exact absurd hc (hB im x h2 h3)
    · have L85 : ∀ (t s : Nat) (im bh lo fr la : Nat → Nat) (nn : Nat), s + t = r → x < nn → nn ≤ 60 → CLO r bo im nn x s → SW G (j + 5) mX9_lays 85 [some (vr (49)), some (vi (((x : Nat) : Int))), some (vi (((s : Nat) : Int))), none] [] (S nw nx g, 78 + gn, (lm c im bh ah lo fr la bk mo sp 0 nn 0 false)) B0 post := by
        intro t
        induction t with
        | zero =>
          intro s im bh lo fr la nn hs hxn h3 hc
          have hc2 : CLO r bo im nn (x + 1) 0 := ⟨hc.1, hc.2.1, fun x2 s2 a b => hc.2.2 x2 s2 a (by omega)⟩
          refine g_X9_lays_85 hR hL hBo ?_
          refine ⟨?_, ?_, ⟨fun q => ?_, fun q => ⟨?_, ?_, ?_, ?_, ?_, ?_, fun im_1 => fun q => ?_⟩⟩⟩
          all_goals first | omega | (exfalso; omega) | exact ih _ _ _ _ _ _ _ (by omega) (by omega) (by omega) h3 hc2
        | succ t iht =>
          intro s im bh lo fr la nn hs hxn h3 hc
          refine g_X9_lays_85 hR hL hBo ?_
          refine ⟨?_, ?_, ⟨fun q => ?_, fun q => ⟨?_, ?_, ?_, ?_, ?_, ?_, fun im_1 => fun q => ?_⟩⟩⟩
          all_goals first | omega | (exfalso; omega) | exact hc.2.1 | exact (fun q a b => hbo s q (by omega) a b) | skip
          have hp := q
          have hs' : s < r := by omega
          refine lp_X9_lays_105 hR hL hBo hr h3 (fun z q i a b d => ?_) (fun q i a b => by rw [hp.2 q i a b]; exact stp_lt _ _ _ _ _ _) (fun y hy _ hf => ?_) nn 0 (by omega) (fun z hz => absurd hz (by omega))
          · rw [hp.1 _ (by omega)]; exact hc.2.1 z q i a b d
          · have hg := CLO_grow hr hxn hs' hc hp hy hf
            refine g_X9_lays_131 hR hL hBo ?_
            refine ⟨?_, ⟨fun q => ⟨?_, ?_, ⟨fun q => ⟨?_, ?_⟩, fun q => ⟨?_, ⟨?_, ⟨?_, ⟨?_, ⟨?_, ?_⟩⟩⟩⟩⟩⟩⟩, fun q => ?_⟩⟩
            all_goals first | omega | (exfalso; omega) | exact K0 _ _ _ _ _ _ | exact iht _ _ _ _ _ _ _ (by omega) (by omega) (by omega) (hg nn (by omega)) | exact iht _ _ _ _ _ _ _ (by omega) (by omega) (by omega) (hg (nn + 1) (by omega))
      refine ⟨?_, ?_, ⟨fun q => ?_, fun q => ?_⟩⟩
      all_goals first | omega | (exfalso; omega) | exact L85 r 0 _ _ _ _ _ _ (by omega) (by omega) h3 hc
theorem id_at {im : Nat → Nat} {r : Nat} (hr : r ≤ 5) (h : ∀ k, k < 25 → im k = if k % 6 = 0 then 1 else 0) : ∀ q i, q < r → i < r → im (5 * q + i) = if q = i then 1 else 0 := by
  intro q i hq hi
  rw [h _ (by omega)]
  by_cases e : q = i
  · rw [if_pos e, if_pos (by omega)]
  · rw [if_neg e, if_neg (by omega)]
theorem c_X9_lays_bad {G : GG} {j nw nx gn : Nat} {g : Nat → Sh} {c : Nat → Nat → Int} {post : Option AV → AM → Prop} {r : Nat} {ln : Nat} {bo : Nat → Nat} {im : Nat → Nat} {bh : Nat → Nat} {ah : Nat → Nat} {lo : Nat → Nat} {fr : Nat → Nat} {la : Nat → Nat} {bk : Nat → Nat} {mo : Nat → Nat} {sp : Nat → Int} {mm : Nat} {nn : Nat} {tp : Nat} {hb : Bool} (hR : c 49 4 = ((r : Nat) : Int)) (hL : c 49 5 = ((ln : Nat) : Int)) (hBo : ∀ i, i < 25 → c 51 i = ((bo i : Nat) : Int)) (hr : r ≤ 5) (hbo : ∀ s q, s < r → q < r → q ≠ s → 2 ≤ bo (5 * s + q) ∧ bo (5 * s + q) ≤ 12) (hB : BAD r bo) (hl : 0 < ln) (hl2 : ln < 1000) (K0 : ∀ (im bh lo fr la : Nat → Nat) (nn : Nat), post (some (vi 0)) (S nw nx g, 78 + gn, (lm c im bh ah lo fr la bk mo sp 0 nn 0 false))) : SM G (j + 6) mX9_lays [vr 49] (S nw nx g, 78 + gn, (lm c im bh ah lo fr la bk mo sp mm nn tp hb)) 0 0 post := by
  refine sm_of wX9_lays rfl (Nat.le_of_ble_eq_true rfl) ?_
  refine g_X9_lays_0 hR hL hBo ?_
  refine ⟨?_, ⟨fun q => ?_, fun q => ?_⟩⟩
  all_goals first | omega | (exfalso; omega) | skip
  refine lp_X9_lays_31 (im := im) hR hL hBo (fun im2 lo2 h1 h2 => ?_) 25 0 im rfl (fun q h => absurd h (by omega))
  have hid := id_at hr h1
  refine lp_X9_lays_bad hR hL hBo hr hbo hB K0 61 0 im2 _ lo2 _ _ 1 rfl (by omega) (by omega) (by omega) ⟨hid, fun z q i a b d => ?_, fun x2 s2 a b => absurd b (by omega)⟩
  have ez : z = 0 := by omega
  subst ez
  have e0 : 25 * 0 + 5 * q + i = 5 * q + i := by omega
  rw [e0, hid q i b d]
  split <;> omega
theorem c_X9_lays_none {G : GG} {j nw nx gn : Nat} {g : Nat → Sh} {c : Nat → Nat → Int} {post : Option AV → AM → Prop} {r : Nat} {ln : Nat} {bo : Nat → Nat} {im : Nat → Nat} {bh : Nat → Nat} {ah : Nat → Nat} {lo : Nat → Nat} {fr : Nat → Nat} {la : Nat → Nat} {bk : Nat → Nat} {mo : Nat → Nat} {sp : Nat → Int} {mm : Nat} {nn : Nat} {tp : Nat} {hb : Bool} (hR : c 49 4 = ((r : Nat) : Int)) (hL : c 49 5 = ((ln : Nat) : Int)) (hBo : ∀ i, i < 25 → c 51 i = ((bo i : Nat) : Int)) (hl : ln = 0) (K : post (some (vi 1)) (S nw nx g, 78 + gn, (lm c im bh ah lo fr la bk mo sp 0 0 0 false))) : SM G (j + 6) mX9_lays [vr 49] (S nw nx g, 78 + gn, (lm c im bh ah lo fr la bk mo sp mm nn tp hb)) 0 0 post := by
  refine sm_of wX9_lays rfl (Nat.le_of_ble_eq_true rfl) ?_
  refine g_X9_lays_0 hR hL hBo ?_
  refine ⟨?_, ⟨fun q => ?_, fun q => ?_⟩⟩
  all_goals first | omega | exact K | (exfalso; omega)

