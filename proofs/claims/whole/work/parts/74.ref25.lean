abbrev agN (P : GD) (F f : Nat → Int) : Prop := ∀ q, q < gN P → F q = f q
def iI : Nat → Nat → Nat → (Nat → Int) → Nat → Int
  | _, 0, _, F => F
  | e, k + 1, x, F => iI e k (x + 1) (u1 F x (if x = e then 1 else 0))
theorem iI_at (e : Nat) : ∀ k x F y, iI e k x F y = if x ≤ y ∧ y < x + k then (if y = e then 1 else 0) else F y := by
  intro k
  induction k with
  | zero => intro x F y; rw [iI, if_neg (by omega)]
  | succ k ih =>
    intro x F y
    rw [iI, ih]
    by_cases h : x + 1 ≤ y ∧ y < x + 1 + k
    · rw [if_pos h, if_pos (show x ≤ y ∧ y < x + (k + 1) by omega)]
    · rw [if_neg h]
      by_cases e : y = x
      · subst e; rw [u1_eq, if_pos (show y ≤ y ∧ y < y + (k + 1) by omega)]
      · rw [u1_ne e, if_neg (by omega)]
theorem agN_u {P : GD} {F f : Nat → Int} (h : agN P F f) {k : Nat} {z z2 : Int} (hz : z = z2) : agN P (u1 F k z) (fun i => if i = k then z2 else f i) := by
  intro q hq
  by_cases e : q = k
  · rw [e, u1_eq]; simp [hz]
  · rw [u1_ne e]; simp only [e, if_false]; exact h q hq
set_option maxHeartbeats 2000000 in
set_option maxRecDepth 20000 in
theorem g_X9_inside_76 {G : GG} {j nw nx gn : Nat} {g : Nat → Sh} {c : Nat → Nat → Int} {post : Option AV → AM → Prop} {x : Nat} {y : Nat} {P : GD} {F : Nat → Int} {i : Nat} {z : Nat} (hM : ML c P) (hV : GV P) (hC : GC P) (hl13 : gL P x ≤ 13) (hW : WH P c x)  (hv : (z < 2147483648) ∧ (((((z : Nat) : Int) < 0) → SW G (j + 3) mX9_inside 58 [some (vr (49)), some (vi (((x : Nat) : Int))), some (vi (((y : Nat) : Int))), some (vi (((i + 1 : Nat) : Int))), none, none] [] (S nw nx g, 78 + gn, (wr c 67 F)) B0 post) ∧ ((¬ (((z : Nat) : Int) < 0)) → (i < gL P x) ∧ ((z < gN P) ∧ ((gLet P x i) < gR P) ∧ ((gS P z (gLet P x i) < 60) ∧ ((gS P z (gLet P x i) < gN P) ∧ ((z < gN P) ∧ ((gL P (gS P z (gLet P x i)) < 2147483648) ∧ (gL P z < 2147483648) ∧ (((gL P (gS P z (gLet P x i)) ≤ gL P z) → (gS P z (gLet P x i) < 60) ∧ (SW G (j + 3) mX9_inside 76 [some (vr (49)), some (vi (((x : Nat) : Int))), some (vi (((y : Nat) : Int))), some (vi (((i : Nat) : Int))), some (vi (((z : Nat) : Int) + (-1))), none] [] (S nw nx g, 78 + gn, (wr c 67 (u1 F (gS P z (gLet P x i)) ((F (gS P z (gLet P x i))) + 0)))) B0 post)) ∧ ((¬ (gL P (gS P z (gLet P x i)) ≤ gL P z)) → (z < 60) ∧ ((gS P z (gLet P x i) < 60) ∧ (SW G (j + 3) mX9_inside 76 [some (vr (49)), some (vi (((x : Nat) : Int))), some (vi (((y : Nat) : Int))), some (vi (((i : Nat) : Int))), some (vi (((z : Nat) : Int) + (-1))), none] [] (S nw nx g, 78 + gn, (wr c 67 (u1 F (gS P z (gLet P x i)) ((F (gS P z (gLet P x i))) + (F z))))) B0 post)))))))))))) :
    SW G (j + 3) mX9_inside 76 [some (vr (49)), some (vi (((x : Nat) : Int))), some (vi (((y : Nat) : Int))), some (vi (((i : Nat) : Int))), some (vi (((z : Nat) : Int))), none] [] (S nw nx g, 78 + gn, (wr c 67 F)) B0 post := by
  refine sw_iload (dX9_inside_0.at 43 rfl) rfl ?_
  refine sw_if_lt (tgt := 143) (dX9_inside_0.at 44 rfl) (by decide) (nrng hv.1) (fun q => ?_) (fun q => ?_)
  · replace hv := hv.2.1 q
    refine sw_iinc (lo' := [some (vr (49)), some (vi (((x : Nat) : Int))), some (vi (((y : Nat) : Int))), some (vi (((i + 1 : Nat) : Int))), some (vi (((z : Nat) : Int))), none]) (dX9_inside_1.at 31 rfl) rfl (by decide) rfl ?_
    refine sw_goto (tgt := 58) (dX9_inside_1.at 32 rfl) (by decide) ?_
    exact sw_mask (bs := [true, true, true, true, false, false]) hv
  · replace hv := hv.2.2 q
    refine sw_aload_n (dX9_inside_0.at 45 rfl) rfl rfl ?_
    refine sw_getR (dX9_inside_0.at 46 rfl) fp_X9_26 (S_lt 49 (by decide)) (S_49 nw nx g) rfl rfl ?_
    refine sw_iconst (dX9_inside_0.at 47 rfl) ?_
    refine sw_iload (dX9_inside_0.at 48 rfl) rfl ?_
    refine sw_imul (dX9_inside_0.at 49 rfl) ?_
    refine sw_topI (y := ((5 * z : Nat) : Int)) (by first | rfl | (congr 1)) ?_
    refine sw_aload_n (dX9_inside_1.at 0 rfl) rfl rfl ?_
    refine sw_getR (dX9_inside_1.at 1 rfl) fp_X9_47 (S_lt 49 (by decide)) (S_49 nw nx g) rfl rfl ?_
    refine sw_iload_n (dX9_inside_1.at 2 rfl) rfl rfl ?_
    refine sw_ialdN i (w := ((gLet P x i : Nat) : Int)) (dX9_inside_1.at 3 rfl) (S_lt 61 (by decide)) (S_61 nw nx g) (by decide) (by have := hl13; omega) (hW _ hv.1) ?_
    replace hv := hv.2
    refine sw_iadd (dX9_inside_1.at 4 rfl) ?_
    refine sw_topI (y := (((5 * z) + (gLet P x i) : Nat) : Int)) (by first | rfl | (congr 1)) ?_
    refine sw_ialdN ((5 * z) + (gLet P x i)) (w := ((gS P z (gLet P x i) : Nat) : Int)) (dX9_inside_1.at 5 rfl) (S_lt 54 (by decide)) (S_54 nw nx g) (by decide) (GV_5 hV hv.1 hv.2.1) (ML_S (ML_SC hM (SC_wr SC_rf (a := 67) (f := F) (by decide))) hv.1 hv.2.1) ?_
    replace hv := hv.2.2
    refine sw_istore (lo' := [some (vr (49)), some (vi (((x : Nat) : Int))), some (vi (((y : Nat) : Int))), some (vi (((i : Nat) : Int))), some (vi (((z : Nat) : Int))), some (vi (((gS P z (gLet P x i) : Nat) : Int)))]) (dX9_inside_1.at 6 rfl) (by decide) rfl ?_
    refine sw_aload_n (dX9_inside_1.at 7 rfl) rfl rfl ?_
    refine sw_getR (dX9_inside_1.at 8 rfl) fp_X9_67 (S_lt 49 (by decide)) (S_49 nw nx g) rfl rfl ?_
    refine sw_iload (dX9_inside_1.at 9 rfl) rfl ?_
    refine sw_dup2 (dX9_inside_1.at 10 rfl) (fun _ h => by cases h) (fun _ h => by cases h) ?_
    refine sw_laldN (gS P z (gLet P x i)) (w := F (gS P z (gLet P x i))) (dX9_inside_1.at 11 rfl) (S_lt 67 (by decide)) (S_67 nw nx g) (by decide) hv.1 rfl ?_
    replace hv := hv.2
    refine sw_aload_n (dX9_inside_1.at 12 rfl) rfl rfl ?_
    refine sw_getR (dX9_inside_1.at 13 rfl) fp_X9_32 (S_lt 49 (by decide)) (S_49 nw nx g) rfl rfl ?_
    refine sw_iload (dX9_inside_1.at 14 rfl) rfl ?_
    refine sw_ialdN (gS P z (gLet P x i)) (w := ((gL P (gS P z (gLet P x i)) : Nat) : Int)) (dX9_inside_1.at 15 rfl) (S_lt 56 (by decide)) (S_56 nw nx g) (by decide) (GV_lt hV hv.1) (ML_L (ML_SC hM (SC_wr SC_rf (a := 67) (f := F) (by decide))) hv.1) ?_
    replace hv := hv.2
    refine sw_aload_n (dX9_inside_1.at 16 rfl) rfl rfl ?_
    refine sw_getR (dX9_inside_1.at 17 rfl) fp_X9_32 (S_lt 49 (by decide)) (S_49 nw nx g) rfl rfl ?_
    refine sw_iload (dX9_inside_1.at 18 rfl) rfl ?_
    refine sw_ialdN z (w := ((gL P z : Nat) : Int)) (dX9_inside_1.at 19 rfl) (S_lt 56 (by decide)) (S_56 nw nx g) (by decide) (GV_lt hV hv.1) (ML_L (ML_SC hM (SC_wr SC_rf (a := 67) (f := F) (by decide))) hv.1) ?_
    replace hv := hv.2
    refine sw_icmpN_le (gL P (gS P z (gLet P x i))) (gL P z) (tgt := 134) (dX9_inside_1.at 20 rfl) (by decide) hv.1 hv.2.1 (fun q => ?_) (fun q => ?_)
    · replace hv := hv.2.2.1 q
      refine sw_lconst (z := 0) (dX9_inside_1.at 26 rfl) (by decide) ?_
      refine sw_ladd (dX9_inside_1.at 27 rfl) ?_
      refine sw_lastN (gS P z (gLet P x i)) (dX9_inside_1.at 28 rfl) (S_lt 67 (by decide)) (S_67 nw nx g) (by decide) hv.1 ?_
      refine SW.cg (M' := (S nw nx g, 78 + gn, (wr c 67 (u1 F (gS P z (gLet P x i)) ((F (gS P z (gLet P x i))) + 0))))) (congrArg (fun m => (S nw nx g, 78 + gn, m)) (wr_up c 67 F (gS P z (gLet P x i)) ((F (gS P z (gLet P x i))) + 0))) ?_
      replace hv := hv.2
      refine sw_iinc (lo' := [some (vr (49)), some (vi (((x : Nat) : Int))), some (vi (((y : Nat) : Int))), some (vi (((i : Nat) : Int))), some (vi (((z : Nat) : Int) + (-1))), some (vi (((gS P z (gLet P x i) : Nat) : Int)))]) (dX9_inside_1.at 29 rfl) rfl (by decide) rfl ?_
      refine sw_goto (tgt := 76) (dX9_inside_1.at 30 rfl) (by decide) ?_
      exact sw_mask (bs := [true, true, true, true, true, false]) hv
    · replace hv := hv.2.2.2 q
      refine sw_aload_n (dX9_inside_1.at 21 rfl) rfl rfl ?_
      refine sw_getR (dX9_inside_1.at 22 rfl) fp_X9_67 (S_lt 49 (by decide)) (S_49 nw nx g) rfl rfl ?_
      refine sw_iload (dX9_inside_1.at 23 rfl) rfl ?_
      refine sw_laldN z (w := F z) (dX9_inside_1.at 24 rfl) (S_lt 67 (by decide)) (S_67 nw nx g) (by decide) hv.1 rfl ?_
      replace hv := hv.2
      refine sw_goto (tgt := 135) (dX9_inside_1.at 25 rfl) (by decide) ?_
      refine sw_ladd (dX9_inside_1.at 27 rfl) ?_
      refine sw_lastN (gS P z (gLet P x i)) (dX9_inside_1.at 28 rfl) (S_lt 67 (by decide)) (S_67 nw nx g) (by decide) hv.1 ?_
      refine SW.cg (M' := (S nw nx g, 78 + gn, (wr c 67 (u1 F (gS P z (gLet P x i)) ((F (gS P z (gLet P x i))) + (F z)))))) (congrArg (fun m => (S nw nx g, 78 + gn, m)) (wr_up c 67 F (gS P z (gLet P x i)) ((F (gS P z (gLet P x i))) + (F z)))) ?_
      replace hv := hv.2
      refine sw_iinc (lo' := [some (vr (49)), some (vi (((x : Nat) : Int))), some (vi (((y : Nat) : Int))), some (vi (((i : Nat) : Int))), some (vi (((z : Nat) : Int) + (-1))), some (vi (((gS P z (gLet P x i) : Nat) : Int)))]) (dX9_inside_1.at 29 rfl) rfl (by decide) rfl ?_
      refine sw_goto (tgt := 76) (dX9_inside_1.at 30 rfl) (by decide) ?_
      exact sw_mask (bs := [true, true, true, true, true, false]) hv

set_option maxHeartbeats 2000000 in
set_option maxRecDepth 20000 in
theorem g_X9_inside_76e {G : GG} {j nw nx gn : Nat} {g : Nat → Sh} {c : Nat → Nat → Int} {post : Option AV → AM → Prop} {x : Nat} {y : Nat} {F : Nat → Int} {i : Nat}  (hv : SW G (j + 3) mX9_inside 58 [some (vr (49)), some (vi (((x : Nat) : Int))), some (vi (((y : Nat) : Int))), some (vi (((i + 1 : Nat) : Int))), none, none] [] (S nw nx g, 78 + gn, (wr c 67 F)) B0 post) :
    SW G (j + 3) mX9_inside 76 [some (vr (49)), some (vi (((x : Nat) : Int))), some (vi (((y : Nat) : Int))), some (vi (((i : Nat) : Int))), some (vi ((-1))), none] [] (S nw nx g, 78 + gn, (wr c 67 F)) B0 post := by
  refine sw_iload (dX9_inside_0.at 43 rfl) rfl ?_
  refine sw_if_lt (tgt := 143) (dX9_inside_0.at 44 rfl) (by decide) (by decide) (fun q => ?_) (fun q => ?_)
  · clear q
    refine sw_iinc (lo' := [some (vr (49)), some (vi (((x : Nat) : Int))), some (vi (((y : Nat) : Int))), some (vi (((i + 1 : Nat) : Int))), some (vi ((-1))), none]) (dX9_inside_1.at 31 rfl) rfl (by decide) rfl ?_
    refine sw_goto (tgt := 58) (dX9_inside_1.at 32 rfl) (by decide) ?_
    exact sw_mask (bs := [true, true, true, true, false, false]) hv
  · exact absurd q (by decide)

set_option maxHeartbeats 2000000 in
set_option maxRecDepth 20000 in
theorem g_X9_inside_58 {G : GG} {j nw nx gn : Nat} {g : Nat → Sh} {c : Nat → Nat → Int} {post : Option AV → AM → Prop} {x : Nat} {y : Nat} {P : GD} {F : Nat → Int} {i : Nat} (hM : ML c P) (hV : GV P) (hC : GC P) (hl13 : gL P x ≤ 13) (hW : WH P c x)  (hv : (x < gN P) ∧ ((i < 2147483648) ∧ (gL P x < 2147483648) ∧ (((gL P x ≤ i) → (y < 60) ∧ (post (some (vl (F y))) (S nw nx g, 78 + gn, (wr c 67 F)))) ∧ ((¬ (gL P x ≤ i)) → SW G (j + 3) mX9_inside 76 [some (vr (49)), some (vi (((x : Nat) : Int))), some (vi (((y : Nat) : Int))), some (vi (((i : Nat) : Int))), some (vi (((gN P : Nat) : Int) - 1)), none] [] (S nw nx g, 78 + gn, (wr c 67 F)) B0 post)))) :
    SW G (j + 3) mX9_inside 58 [some (vr (49)), some (vi (((x : Nat) : Int))), some (vi (((y : Nat) : Int))), some (vi (((i : Nat) : Int))), none, none] [] (S nw nx g, 78 + gn, (wr c 67 F)) B0 post := by
  refine sw_iload_n (dX9_inside_0.at 32 rfl) rfl rfl ?_
  refine sw_aload_n (dX9_inside_0.at 33 rfl) rfl rfl ?_
  refine sw_getR (dX9_inside_0.at 34 rfl) fp_X9_32 (S_lt 49 (by decide)) (S_49 nw nx g) rfl rfl ?_
  refine sw_iload_n (dX9_inside_0.at 35 rfl) rfl rfl ?_
  refine sw_ialdN x (w := ((gL P x : Nat) : Int)) (dX9_inside_0.at 36 rfl) (S_lt 56 (by decide)) (S_56 nw nx g) (by decide) (GV_lt hV hv.1) (ML_L (ML_SC hM (SC_wr SC_rf (a := 67) (f := F) (by decide))) hv.1) ?_
  replace hv := hv.2
  refine sw_icmpN_ge i (gL P x) (tgt := 149) (dX9_inside_0.at 37 rfl) (by decide) hv.1 hv.2.1 (fun q => ?_) (fun q => ?_)
  · replace hv := hv.2.2.1 q
    refine sw_aload_n (dX9_inside_1.at 33 rfl) rfl rfl ?_
    refine sw_getR (dX9_inside_1.at 34 rfl) fp_X9_67 (S_lt 49 (by decide)) (S_49 nw nx g) rfl rfl ?_
    refine sw_iload_n (dX9_inside_1.at 35 rfl) rfl rfl ?_
    refine sw_laldN y (w := F y) (dX9_inside_1.at 36 rfl) (S_lt 67 (by decide)) (S_67 nw nx g) (by decide) hv.1 rfl ?_
    replace hv := hv.2
    exact sw_lret (dX9_inside_1.at 37 rfl) rfl (Nat.le_refl _) (Nat.le_refl _) hv
  · replace hv := hv.2.2.2 q
    refine sw_aload_n (dX9_inside_0.at 38 rfl) rfl rfl ?_
    refine sw_getIE (w := ((gN P : Nat) : Int)) (dX9_inside_0.at 39 rfl) fp_X9_196 (S_lt 49 (by decide)) (S_49 nw nx g) rfl ((wr_off (c := c) (a := 67) (f := F) (i := 49) (k := 22) (by decide)).trans hM.1.2.1) ?_
    refine sw_iconst (dX9_inside_0.at 40 rfl) ?_
    refine sw_isub (dX9_inside_0.at 41 rfl) ?_
    refine sw_istore (lo' := [some (vr (49)), some (vi (((x : Nat) : Int))), some (vi (((y : Nat) : Int))), some (vi (((i : Nat) : Int))), some (vi (((gN P : Nat) : Int) - 1)), none]) (dX9_inside_0.at 42 rfl) (by decide) rfl ?_
    exact hv

set_option maxHeartbeats 2000000 in
set_option maxRecDepth 20000 in
theorem g_X9_inside_27 {G : GG} {j nw nx gn : Nat} {g : Nat → Sh} {c : Nat → Nat → Int} {post : Option AV → AM → Prop} {x : Nat} {y : Nat} {P : GD} {F : Nat → Int} {i : Nat} (hM : ML c P) (hV : GV P)  (hv : (i < 2147483648) ∧ (gN P < 2147483648) ∧ (((gN P ≤ i) → SW G (j + 3) mX9_inside 58 [some (vr (49)), some (vi (((x : Nat) : Int))), some (vi (((y : Nat) : Int))), some (vi (0)), none, none] [] (S nw nx g, 78 + gn, (wr c 67 F)) B0 post) ∧ ((¬ (gN P ≤ i)) → (i < 2147483648) ∧ (((i ≠ 0) → (i < 60) ∧ (SW G (j + 3) mX9_inside 27 [some (vr (49)), some (vi (((x : Nat) : Int))), some (vi (((y : Nat) : Int))), some (vi (((i + 1 : Nat) : Int))), none, none] [] (S nw nx g, 78 + gn, (wr c 67 (u1 F i 0))) B0 post)) ∧ ((i = 0) → (i < 60) ∧ (SW G (j + 3) mX9_inside 27 [some (vr (49)), some (vi (((x : Nat) : Int))), some (vi (((y : Nat) : Int))), some (vi (((i + 1 : Nat) : Int))), none, none] [] (S nw nx g, 78 + gn, (wr c 67 (u1 F i 1))) B0 post)))))) :
    SW G (j + 3) mX9_inside 27 [some (vr (49)), some (vi (((x : Nat) : Int))), some (vi (((y : Nat) : Int))), some (vi (((i : Nat) : Int))), none, none] [] (S nw nx g, 78 + gn, (wr c 67 F)) B0 post := by
  refine sw_iload_n (dX9_inside_0.at 15 rfl) rfl rfl ?_
  refine sw_aload_n (dX9_inside_0.at 16 rfl) rfl rfl ?_
  refine sw_getIE (w := ((gN P : Nat) : Int)) (dX9_inside_0.at 17 rfl) fp_X9_196 (S_lt 49 (by decide)) (S_49 nw nx g) rfl ((wr_off (c := c) (a := 67) (f := F) (i := 49) (k := 22) (by decide)).trans hM.1.2.1) ?_
  refine sw_icmpN_ge i (gN P) (tgt := 56) (dX9_inside_0.at 18 rfl) (by decide) hv.1 hv.2.1 (fun q => ?_) (fun q => ?_)
  · replace hv := hv.2.2.1 q
    refine sw_iconst (dX9_inside_0.at 30 rfl) ?_
    refine sw_istore_n (lo' := [some (vr (49)), some (vi (((x : Nat) : Int))), some (vi (((y : Nat) : Int))), some (vi (0)), none, none]) (dX9_inside_0.at 31 rfl) rfl (by decide) rfl ?_
    exact hv
  · replace hv := hv.2.2.2 q
    refine sw_aload_n (dX9_inside_0.at 19 rfl) rfl rfl ?_
    refine sw_getR (dX9_inside_0.at 20 rfl) fp_X9_67 (S_lt 49 (by decide)) (S_49 nw nx g) rfl rfl ?_
    refine sw_iload_n (dX9_inside_0.at 21 rfl) rfl rfl ?_
    refine sw_iload_n (dX9_inside_0.at 22 rfl) rfl rfl ?_
    refine sw_ifN_ne i (tgt := 48) (dX9_inside_0.at 23 rfl) (by decide) hv.1 (fun q => ?_) (fun q => ?_)
    · replace hv := hv.2.1 q
      refine sw_lconst (z := 0) (dX9_inside_0.at 26 rfl) (by decide) ?_
      refine sw_lastN i (dX9_inside_0.at 27 rfl) (S_lt 67 (by decide)) (S_67 nw nx g) (by decide) hv.1 ?_
      refine SW.cg (M' := (S nw nx g, 78 + gn, (wr c 67 (u1 F i 0)))) (congrArg (fun m => (S nw nx g, 78 + gn, m)) (wr_up c 67 F i 0)) ?_
      replace hv := hv.2
      refine sw_iinc (lo' := [some (vr (49)), some (vi (((x : Nat) : Int))), some (vi (((y : Nat) : Int))), some (vi (((i + 1 : Nat) : Int))), none, none]) (dX9_inside_0.at 28 rfl) rfl (by decide) rfl ?_
      refine sw_goto (tgt := 27) (dX9_inside_0.at 29 rfl) (by decide) ?_
      exact hv
    · replace hv := hv.2.2 q
      refine sw_lconst (z := 1) (dX9_inside_0.at 24 rfl) (by decide) ?_
      refine sw_goto (tgt := 49) (dX9_inside_0.at 25 rfl) (by decide) ?_
      refine sw_lastN i (dX9_inside_0.at 27 rfl) (S_lt 67 (by decide)) (S_67 nw nx g) (by decide) hv.1 ?_
      refine SW.cg (M' := (S nw nx g, 78 + gn, (wr c 67 (u1 F i 1)))) (congrArg (fun m => (S nw nx g, 78 + gn, m)) (wr_up c 67 F i 1)) ?_
      replace hv := hv.2
      refine sw_iinc (lo' := [some (vr (49)), some (vi (((x : Nat) : Int))), some (vi (((y : Nat) : Int))), some (vi (((i + 1 : Nat) : Int))), none, none]) (dX9_inside_0.at 28 rfl) rfl (by decide) rfl ?_
      refine sw_goto (tgt := 27) (dX9_inside_0.at 29 rfl) (by decide) ?_
      exact hv

set_option maxHeartbeats 4000000 in
theorem li_76 {G : GG} {j nw nx gn : Nat} {g : Nat → Sh} {c : Nat → Nat → Int} {post : Option AV → AM → Prop} {P : GD} {x y i : Nat} (hM : ML c P) (hV : GV P) (hC : GC P) (hl13 : gL P x ≤ 13) (hW : WH P c x) (hx : x < gN P) (hi : i < gL P x) : ∀ (z : Nat) (F f : Nat → Int), z ≤ gN P → agN P F f → (∀ F2 : Nat → Int, agN P F2 (inF P (gLet P x i) f z) → SW G (j + 3) mX9_inside 58 [some (vr (49)), some (vi (((x : Nat) : Int))), some (vi (((y : Nat) : Int))), some (vi (((i + 1 : Nat) : Int))), none, none] [] (S nw nx g, 78 + gn, (wr c 67 F2)) B0 post) → SW G (j + 3) mX9_inside 76 [some (vr (49)), some (vi (((x : Nat) : Int))), some (vi (((y : Nat) : Int))), some (vi (((i : Nat) : Int))), some (vi ((z : Int) - 1)), none] [] (S nw nx g, 78 + gn, (wr c 67 F)) B0 post := by
  have h60 := GV_N hV
  have s9 := gLet_lt hV hx (i := i)
  intro z
  induction z with
  | zero =>
    intro F f _ hF K
    have e : (((0 : Nat) : Int) - 1) = (-1) := by omega
    rw [e]
    exact g_X9_inside_76e (K F hF)
  | succ z ih =>
    intro F f hz hF K
    have e : (((z + 1 : Nat) : Int) - 1) = ((z : Nat) : Int) := by omega
    have e2 : ((z : Nat) : Int) + (-1) = (z : Int) - 1 := by omega
    have g9 := hV.2.2.2.1 z _ (show z < gN P by omega) s9
    have l1 := (hV.2.2.1 z (by omega)).1
    have l2 := (hV.2.2.1 _ g9).1
    have d9 := (hC.2.2.2.1 z _ (show z < gN P by omega) s9).1
    have t9 := hC.2.2.2.2.1 z _ (show z < gN P by omega) s9
    rw [inF] at K
    rw [e]
    refine g_X9_inside_76 hM hV hC hl13 hW ?_
    rw [e2]
    by_cases hb : gL P (gS P z (gLet P x i)) < gL P z
    · rw [decide_eq_true hb] at d9
      rw [if_pos d9] at K
      have hF2 : agN P (u1 F (gS P z (gLet P x i)) (F (gS P z (gLet P x i)) + 0)) f := fun q hq => by
        by_cases e : q = gS P z (gLet P x i)
        · rw [e, u1_eq, Int.add_zero]; exact hF _ g9
        · rw [u1_ne e]; exact hF q hq
      refine ⟨?_, ⟨fun q => ?_, fun q => ⟨?_, ⟨?_, ?_, ⟨?_, ⟨?_, ⟨?_, ⟨?_, ?_, ⟨fun q => ⟨?_, ?_⟩, fun q => ⟨?_, ⟨?_, ?_⟩⟩⟩⟩⟩⟩⟩⟩⟩⟩⟩
      all_goals first | omega | assumption | (exfalso; omega) | exact ih _ _ (by omega) hF2 K
    · rw [decide_eq_false hb] at d9
      rw [if_neg (by rw [d9]; decide)] at K
      have hF2 := agN_u hF (k := gS P z (gLet P x i)) (z := F (gS P z (gLet P x i)) + F z) (z2 := f (gS P z (gLet P x i)) + f z) (by rw [hF _ g9, hF z (by omega)])
      have e7 : (fun i_1 => if i_1 = gS P z (gLet P x i) then f (gS P z (gLet P x i)) + f z else f i_1) = (fun i_1 => if i_1 = gS P z (gLet P x i) then f i_1 + f z else f i_1) := by
        funext q; split
        · rename_i h; rw [h]
        · rfl
      rw [e7] at hF2
      refine ⟨?_, ⟨fun q => ?_, fun q => ⟨?_, ⟨?_, ?_, ⟨?_, ⟨?_, ⟨?_, ⟨?_, ?_, ⟨fun q => ⟨?_, ?_⟩, fun q => ⟨?_, ⟨?_, ?_⟩⟩⟩⟩⟩⟩⟩⟩⟩⟩⟩
      all_goals first | omega | assumption | (exfalso; omega) | exact ih _ _ (by omega) hF2 K
set_option maxHeartbeats 4000000 in
theorem li_58 {G : GG} {j nw nx gn : Nat} {g : Nat → Sh} {c : Nat → Nat → Int} {post : Option AV → AM → Prop} {P : GD} {x y : Nat} (hM : ML c P) (hV : GV P) (hC : GC P) (hl13 : gL P x ≤ 13) (hW : WH P c x) (hx : x < gN P) (hy : y < gN P) (K : ∀ F : Nat → Int, agN P F (oF P x (gL P x)) → post (some (vl (F y))) (S nw nx g, 78 + gn, (wr c 67 F))) : ∀ (k i : Nat) (F : Nat → Int), i + k = gL P x → agN P F (oF P x i) → SW G (j + 3) mX9_inside 58 [some (vr (49)), some (vi (((x : Nat) : Int))), some (vi (((y : Nat) : Int))), some (vi (((i : Nat) : Int))), none, none] [] (S nw nx g, 78 + gn, (wr c 67 F)) B0 post := by
  have h60 := GV_N hV
  intro k
  induction k with
  | zero =>
    intro i F hi hF
    have e : i = gL P x := by omega
    subst e
    have K2 := K F hF
    refine g_X9_inside_58 hM hV hC hl13 hW ?_
    refine ⟨?_, ⟨?_, ?_, ⟨fun q => ⟨?_, ?_⟩, fun q => ?_⟩⟩⟩
    all_goals first | omega | exact K2 | (exfalso; omega)
  | succ k ih =>
    intro i F hi hF
    refine g_X9_inside_58 hM hV hC hl13 hW ?_
    refine ⟨?_, ⟨?_, ?_, ⟨fun q => ⟨?_, ?_⟩, fun q => ?_⟩⟩⟩
    all_goals first | omega | (exfalso; omega) | exact li_76 hM hV hC hl13 hW hx (by omega) (gN P) F _ (Nat.le_refl _) hF (fun F2 h2 => ih _ F2 (by omega) h2)
set_option maxHeartbeats 4000000 in
theorem li_27 {G : GG} {j nw nx gn : Nat} {g : Nat → Sh} {c : Nat → Nat → Int} {post : Option AV → AM → Prop} {P : GD} {x y : Nat} (hM : ML c P) (hV : GV P) : ∀ (k i : Nat) (F : Nat → Int), i + k = gN P → SW G (j + 3) mX9_inside 58 [some (vr (49)), some (vi (((x : Nat) : Int))), some (vi (((y : Nat) : Int))), some (vi (0)), none, none] [] (S nw nx g, 78 + gn, (wr c 67 (iI 0 k i F))) B0 post → SW G (j + 3) mX9_inside 27 [some (vr (49)), some (vi (((x : Nat) : Int))), some (vi (((y : Nat) : Int))), some (vi (((i : Nat) : Int))), none, none] [] (S nw nx g, 78 + gn, (wr c 67 F)) B0 post := by
  have h60 := GV_N hV
  intro k
  induction k with
  | zero =>
    intro i F hi K
    rw [iI] at K
    refine g_X9_inside_27 hM hV ?_
    refine ⟨?_, ?_, ⟨fun q => ?_, fun q => ⟨?_, ⟨fun q => ⟨?_, ?_⟩, fun q => ⟨?_, ?_⟩⟩⟩⟩⟩
    all_goals first | omega | exact K | (exfalso; omega)
  | succ k ih =>
    intro i F hi K
    rw [iI] at K
    refine g_X9_inside_27 hM hV ?_
    refine ⟨?_, ?_, ⟨fun q => ?_, fun q => ⟨?_, ⟨fun q => ⟨?_, ?_⟩, fun q => ⟨?_, ?_⟩⟩⟩⟩⟩
    all_goals first | omega | (exfalso; omega) | (rw [if_pos (by assumption)] at K; exact ih _ _ (by omega) K) | (rw [if_neg (by assumption)] at K; exact ih _ _ (by omega) K)

set_option maxHeartbeats 2000000 in
set_option maxRecDepth 20000 in
theorem g_X9_inside_0n {G : GG} {j nw nx gn : Nat} {g : Nat → Sh} {c : Nat → Nat → Int} {post : Option AV → AM → Prop} {x : Nat} {y : Nat} {P : GD} (hM : ML c P) (hV : GV P) (hC : GC P)  (hv : (-2147483648 ≤ ((x : Nat) : Int) ∧ ((x : Nat) : Int) < 2147483648) ∧ ((((decide (0 ≤ ((x : Nat) : Int) ∧ ((x : Nat) : Int) < (gN P : Int))) = false) → post (some (vl ((-2)))) (S nw nx g, 78 + gn, c)) ∧ (((decide (0 ≤ ((x : Nat) : Int) ∧ ((x : Nat) : Int) < (gN P : Int))) = true) → (-2147483648 ≤ ((y : Nat) : Int) ∧ ((y : Nat) : Int) < 2147483648) ∧ ((((decide (0 ≤ ((y : Nat) : Int) ∧ ((y : Nat) : Int) < (gN P : Int))) = true) → (x < gN P) ∧ (∀ c_1 : Nat → Nat → Int, (SC c c_1 ∧ WH P c_1 x) → SW G (j + 3) mX9_inside 27 [some (vr (49)), some (vi (((x : Nat) : Int))), some (vi (((y : Nat) : Int))), some (vi (0)), none, none] [] (S nw nx g, 78 + gn, c_1) B0 post)) ∧ (((decide (0 ≤ ((y : Nat) : Int) ∧ ((y : Nat) : Int) < (gN P : Int))) = false) → post (some (vl ((-2)))) (S nw nx g, 78 + gn, c)))))) :
    SW G (j + 3) mX9_inside 0 [some (vr (49)), some (vi (((x : Nat) : Int))), some (vi (((y : Nat) : Int))), none, none, none] [] (S nw nx g, 78 + gn, c) B0 post := by
  refine sw_aload_n (dX9_inside_0.at 0 rfl) rfl rfl ?_
  refine sw_iload_n (dX9_inside_0.at 1 rfl) rfl rfl ?_
  refine sw_callV (B' := B0) (As := [vi (((x : Nat) : Int))]) (mc := 0) (ms := 0) (dX9_inside_0.at 2 rfl) lk_X9_251 (S_lt 49 (by decide)) (S_49 nw nx g) rfl rfl (Nat.le_of_ble_eq_true rfl) rfl (Nat.le_refl _) (Nat.le_refl _) ?_
  refine c_X9_isElement (x := ((x : Nat) : Int)) (j := j + 1) hM hV hv.1 ?_
  replace hv := hv.2
  refine sw_if_eq (tgt := 16) (dX9_inside_0.at 3 rfl) (by decide) (bz_rng _) (fun q => ?_) (fun q => ?_)
  · replace hv := hv.1 (bz_0 q)
    refine sw_ldc2 (z := (-2)) (dX9_inside_0.at 8 rfl) kc_X9_259 (by decide) ?_
    exact sw_lret (dX9_inside_0.at 9 rfl) rfl (Nat.le_refl _) (Nat.le_refl _) hv
  · replace hv := hv.2 (bz_n0 q)
    refine sw_aload_n (dX9_inside_0.at 4 rfl) rfl rfl ?_
    refine sw_iload_n (dX9_inside_0.at 5 rfl) rfl rfl ?_
    refine sw_callV (B' := B0) (As := [vi (((y : Nat) : Int))]) (mc := 0) (ms := 0) (dX9_inside_0.at 6 rfl) lk_X9_251 (S_lt 49 (by decide)) (S_49 nw nx g) rfl rfl (Nat.le_of_ble_eq_true rfl) rfl (Nat.le_refl _) (Nat.le_refl _) ?_
    refine c_X9_isElement (x := ((y : Nat) : Int)) (j := j + 1) hM hV hv.1 ?_
    replace hv := hv.2
    refine sw_if_ne (tgt := 20) (dX9_inside_0.at 7 rfl) (by decide) (bz_rng _) (fun q => ?_) (fun q => ?_)
    · replace hv := hv.1 (bz_1 q)
      refine sw_aload_n (dX9_inside_0.at 10 rfl) rfl rfl ?_
      refine sw_iload_n (dX9_inside_0.at 11 rfl) rfl rfl ?_
      refine sw_callV (B' := B0) (As := [vi (((x : Nat) : Int))]) (mc := 0) (ms := 0) (dX9_inside_0.at 12 rfl) lk_X9_234 (S_lt 49 (by decide)) (S_49 nw nx g) rfl rfl (Nat.le_of_ble_eq_true rfl) rfl (Nat.le_refl _) (Nat.le_refl _) ?_
      refine c_X9_spells (x := x) (j := j + 2) hM hV hC hv.1 (fun c_1 h_1 => ?_)
      replace hv := hv.2 c_1 h_1
      refine sw_iconst (dX9_inside_0.at 13 rfl) ?_
      refine sw_istore_n (lo' := [some (vr (49)), some (vi (((x : Nat) : Int))), some (vi (((y : Nat) : Int))), some (vi (0)), none, none]) (dX9_inside_0.at 14 rfl) rfl (by decide) rfl ?_
      exact hv
    · replace hv := hv.2 (bz_n1 q)
      refine sw_ldc2 (z := (-2)) (dX9_inside_0.at 8 rfl) kc_X9_259 (by decide) ?_
      exact sw_lret (dX9_inside_0.at 9 rfl) rfl (Nat.le_refl _) (Nat.le_refl _) hv

set_option maxHeartbeats 2000000 in
set_option maxRecDepth 20000 in
theorem g_X9_inside_0 {G : GG} {j nw nx gn : Nat} {g : Nat → Sh} {c : Nat → Nat → Int} {post : Option AV → AM → Prop} {x : Int} {y : Int} {P : GD} (hM : ML c P) (hV : GV P) (hC : GC P)  (hv : (-2147483648 ≤ x ∧ x < 2147483648) ∧ ((((decide (0 ≤ x ∧ x < (gN P : Int))) = false) → post (some (vl ((-2)))) (S nw nx g, 78 + gn, c)) ∧ (((decide (0 ≤ x ∧ x < (gN P : Int))) = true) → (-2147483648 ≤ y ∧ y < 2147483648) ∧ ((((decide (0 ≤ y ∧ y < (gN P : Int))) = true) → SW G (j + 3) mX9_inside 22 [some (vr (49)), some (vi (x)), some (vi (y)), none, none, none] [vi (x), vr (49)] (S nw nx g, 78 + gn, c) B0 post) ∧ (((decide (0 ≤ y ∧ y < (gN P : Int))) = false) → post (some (vl ((-2)))) (S nw nx g, 78 + gn, c)))))) :
    SW G (j + 3) mX9_inside 0 [some (vr (49)), some (vi (x)), some (vi (y)), none, none, none] [] (S nw nx g, 78 + gn, c) B0 post := by
  refine sw_aload_n (dX9_inside_0.at 0 rfl) rfl rfl ?_
  refine sw_iload_n (dX9_inside_0.at 1 rfl) rfl rfl ?_
  refine sw_callV (B' := B0) (As := [vi (x)]) (mc := 0) (ms := 0) (dX9_inside_0.at 2 rfl) lk_X9_251 (S_lt 49 (by decide)) (S_49 nw nx g) rfl rfl (Nat.le_of_ble_eq_true rfl) rfl (Nat.le_refl _) (Nat.le_refl _) ?_
  refine c_X9_isElement (x := x) (j := j + 1) hM hV hv.1 ?_
  replace hv := hv.2
  refine sw_if_eq (tgt := 16) (dX9_inside_0.at 3 rfl) (by decide) (bz_rng _) (fun q => ?_) (fun q => ?_)
  · replace hv := hv.1 (bz_0 q)
    refine sw_ldc2 (z := (-2)) (dX9_inside_0.at 8 rfl) kc_X9_259 (by decide) ?_
    exact sw_lret (dX9_inside_0.at 9 rfl) rfl (Nat.le_refl _) (Nat.le_refl _) hv
  · replace hv := hv.2 (bz_n0 q)
    refine sw_aload_n (dX9_inside_0.at 4 rfl) rfl rfl ?_
    refine sw_iload_n (dX9_inside_0.at 5 rfl) rfl rfl ?_
    refine sw_callV (B' := B0) (As := [vi (y)]) (mc := 0) (ms := 0) (dX9_inside_0.at 6 rfl) lk_X9_251 (S_lt 49 (by decide)) (S_49 nw nx g) rfl rfl (Nat.le_of_ble_eq_true rfl) rfl (Nat.le_refl _) (Nat.le_refl _) ?_
    refine c_X9_isElement (x := y) (j := j + 1) hM hV hv.1 ?_
    replace hv := hv.2
    refine sw_if_ne (tgt := 20) (dX9_inside_0.at 7 rfl) (by decide) (bz_rng _) (fun q => ?_) (fun q => ?_)
    · replace hv := hv.1 (bz_1 q)
      refine sw_aload_n (dX9_inside_0.at 10 rfl) rfl rfl ?_
      refine sw_iload_n (dX9_inside_0.at 11 rfl) rfl rfl ?_
      exact hv
    · replace hv := hv.2 (bz_n1 q)
      refine sw_ldc2 (z := (-2)) (dX9_inside_0.at 8 rfl) kc_X9_259 (by decide) ?_
      exact sw_lret (dX9_inside_0.at 9 rfl) rfl (Nat.le_refl _) (Nat.le_refl _) hv

set_option maxHeartbeats 4000000 in
theorem c_X9_inside {G : GG} {j nw nx gn : Nat} {g : Nat → Sh} {c : Nat → Nat → Int} {post : Option AV → AM → Prop} {P : GD} {x y : Int} (hM : ML c P) (hV : GV P) (hC : GC P) (p1 : -2147483648 ≤ x ∧ x < 2147483648) (p2 : -2147483648 ≤ y ∧ y < 2147483648) (K : ∀ c2 : Nat → Nat → Int, SC c c2 → post (some (vl (q_inside P x y))) (S nw nx g, 78 + gn, c2)) : SM G (j + 4) mX9_inside [vr (49), vi (x), vi (y)] (S nw nx g, 78 + gn, c) 0 0 post := by
  refine sm_of wX9_inside rfl (Nat.le_of_ble_eq_true rfl) ?_
  have hN60 := GV_N hV
  have hR5 := GV_R hV
  by_cases hv : (0 ≤ x ∧ x < (gN P : Int)) ∧ 0 ≤ y ∧ y < (gN P : Int)
  · obtain ⟨x, rfl⟩ : ∃ n : Nat, x = (n : Int) := ⟨x.toNat, by omega⟩
    obtain ⟨y, rfl⟩ : ∃ n : Nat, y = (n : Int) := ⟨y.toNat, by omega⟩
    have e : q_inside P ((x : Nat) : Int) ((y : Nat) : Int) = oF P x (gL P x) y := by
      rw [q_inside, if_pos hv]
      simp only [Int.toNat_natCast]
    rw [e] at K
    have K1 : ∀ (z : Int) (c2 : Nat → Nat → Int), (SC c c2) → z = (oF P x (gL P x) y) → post (some (vl z)) (S nw nx g, 78 + gn, c2) := fun z c2 h e9 => e9 ▸ K c2 h
    have hx : x < gN P := by omega
    have fx := hV.2.2.1 x hx
    have hy : y < gN P := by omega
    have fy := hV.2.2.1 y hy
    refine g_X9_inside_0n hM hV hC ?_
    refine ⟨?_, ⟨fun q => ?_, fun q => ⟨?_, ⟨fun q => ⟨?_, fun c_1 h_1 => ?_⟩, fun q => ?_⟩⟩⟩⟩
    all_goals first | omega | assumption | (exfalso; simp only [decide_eq_true_eq, decide_eq_false_iff_not] at *; omega) | (have l9 := li_27 (c := c_1) (G := G) (j := j) (nw := nw) (nx := nx) (gn := gn) (g := g) (post := post) (x := x) (y := y) (ML_SC hM h_1.1) hV (gN P) 0 (c_1 67) (by omega) (li_58 (ML_SC hM h_1.1) hV hC fx.1 h_1.2 hx hy (fun F hF => by rw [hF y hy]; exact K _ (SC_wr h_1.1 (by decide))) (gL P x) 0 _ (by omega) (fun q hq => by rw [iI_at, if_pos (show 0 ≤ q ∧ q < 0 + gN P by omega)]; rfl)); rw [wr_self] at l9; exact l9) | exact K _ (by first | exact SC_rf | assumption | (refine SC_tr ?_ (by assumption); first | assumption | (refine SC_tr ?_ (by assumption); first | assumption | (refine SC_tr ?_ (by assumption); assumption)))) | (refine K1 _ _ (by first | exact SC_rf | assumption | (refine SC_tr ?_ (by assumption); first | assumption | (refine SC_tr ?_ (by assumption); first | assumption | (refine SC_tr ?_ (by assumption); assumption)))) ?_; first | rfl | (simp [bz, *]; done) | (split <;> first | rfl | omega))
  · have e : q_inside P x y = (-2) := by rw [q_inside, if_neg hv]
    rw [e] at K
    have K1 : ∀ (z : Int) (c2 : Nat → Nat → Int), (SC c c2) → z = ((-2)) → post (some (vl z)) (S nw nx g, 78 + gn, c2) := fun z c2 h e9 => e9 ▸ K c2 h
    refine g_X9_inside_0 hM hV hC ?_
    refine ⟨?_, ⟨fun q => ?_, fun q => ⟨?_, ⟨fun q => ?_, fun q => ?_⟩⟩⟩⟩
    all_goals first | omega | assumption | (exfalso; simp only [decide_eq_true_eq, decide_eq_false_iff_not] at *; omega) | exact K _ (by first | exact SC_rf | assumption | (refine SC_tr ?_ (by assumption); first | assumption | (refine SC_tr ?_ (by assumption); first | assumption | (refine SC_tr ?_ (by assumption); assumption)))) | (refine K1 _ _ (by first | exact SC_rf | assumption | (refine SC_tr ?_ (by assumption); first | assumption | (refine SC_tr ?_ (by assumption); first | assumption | (refine SC_tr ?_ (by assumption); assumption)))) ?_; first | rfl | (simp [bz, *]; done) | (split <;> first | rfl | omega))

