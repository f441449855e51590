def f1S (P : GD) (w h s : Nat) (f : Nat → Int) : Nat → Nat → Int
  | 0 => f
  | x + 1 => if (gE P x).testBit s ∧ (gD P w).testBit x then adS (adS (f1S P w h s f x) ((x * 60 + w) * 8) ((gS P x s * 60 + h) * 8) 0 1 0) ((x * 60 + w) * 8) ((x * 60 + h) * 8) 1 1 0 else f1S P w h s f x
def f2S (P : GD) (w h s : Nat) (f : Nat → Int) : Nat → Nat → Int
  | 0 => f
  | z + 1 => if (gE P z).testBit s ∧ muG P (f2S P w h s f z) z h ≠ 0 then tkS P (gA P w) w z ((gL P w - gL P z) / 2) (-(muG P (f2S P w h s f z) z h)) (f2S P w h s f z) (z + 1) else f2S P w h s f z
def f3S (P : GD) (w s : Nat) (f : Nat → Int) : Nat → Nat → Int
  | 0 => f
  | x + 1 => if (gE P x).testBit s ∧ (gD P w).testBit x then adS (f3S P w s f x) ((gS P x s * 60 + w) * 8) ((x * 60 + w) * 8) 0 1 0 else f3S P w s f x
theorem muG_lt {P : GD} {f : Nat → Int} {v w : Nat} (h : muG P f v w ≠ 0) : gL P v < gL P w := by
  rw [muG] at h
  by_cases e : gL P v < gL P w ∧ (gL P w - gL P v) % 2 = 1
  · exact e.1
  · rw [if_neg e] at h; exact absurd rfl h
set_option maxHeartbeats 2000000 in
set_option maxRecDepth 20000 in
theorem g_X4_fillColumn_18 {G : GG} {j nw nx gn : Nat} {g : Nat → Sh} {c : Nat → Nat → Int} {post : Option AV → AM → Prop} {e : Nat} {w : Nat} (he : e = 21 ∨ e = 35) {P : GD} {h : Nat} {s : Nat} {x : Nat} {f : Nat → Int} (hE : EL c e P) (hV : GV P)  (hv : (x < 2147483648) ∧ (w < 2147483648) ∧ (((w < x) → SW G (j + 3) mX4_fillColumn 89 [some (vr (5)), some (vr (e)), some (vi (((w : Nat) : Int))), some (vi (((h : Nat) : Int))), some (vi (((s : Nat) : Int))), some (vi (0)), none] [] (S nw nx g, 78 + gn, (wr c 6 f)) B0 post) ∧ ((¬ (w < x)) → (x < gN P) ∧ ((gE P x < 2147483648) ∧ (((gE P x) < 9223372036854775808) ∧ (s < 64) ∧ (((((gE P x).testBit s) = false) → SW G (j + 3) mX4_fillColumn 18 [some (vr (5)), some (vr (e)), some (vi (((w : Nat) : Int))), some (vi (((h : Nat) : Int))), some (vi (((s : Nat) : Int))), some (vi (((x + 1 : Nat) : Int))), none] [] (S nw nx g, 78 + gn, (wr c 6 f)) B0 post) ∧ ((((gE P x).testBit s) = true) → (x < gN P) ∧ (w < gN P) ∧ (((((gD P w).testBit x) = false) → SW G (j + 3) mX4_fillColumn 18 [some (vr (5)), some (vr (e)), some (vi (((w : Nat) : Int))), some (vi (((h : Nat) : Int))), some (vi (((s : Nat) : Int))), some (vi (((x + 1 : Nat) : Int))), none] [] (S nw nx g, 78 + gn, (wr c 6 f)) B0 post) ∧ ((((gD P w).testBit x) = true) → (x < gN P) ∧ (s < gR P) ∧ ((x < 60) ∧ (w < 60) ∧ ((gS P x s) < 60) ∧ (h < 60) ∧ (0 < 100) ∧ (((gS P x s) * 60 + h) * 8 + 8 ≤ (x * 60 + w) * 8 ∨ (x * 60 + w) * 8 + 8 ≤ ((gS P x s) * 60 + h) * 8) ∧ ((x < 60) ∧ (w < 60) ∧ (x < 60) ∧ (h < 60) ∧ (1 < 100) ∧ ((x * 60 + h) * 8 + 8 ≤ (x * 60 + w) * 8 ∨ (x * 60 + w) * 8 + 8 ≤ (x * 60 + h) * 8) ∧ (SW G (j + 3) mX4_fillColumn 18 [some (vr (5)), some (vr (e)), some (vi (((w : Nat) : Int))), some (vi (((h : Nat) : Int))), some (vi (((s : Nat) : Int))), some (vi (((x + 1 : Nat) : Int))), none] [] (S nw nx g, 78 + gn, (wr (wr (wr c 6 f) 6 (adS ((wr c 6 f) 6) ((x * 60 + w) * 8) (((gS P x s) * 60 + h) * 8) 0 1 0)) 6 (adS ((wr (wr c 6 f) 6 (adS ((wr c 6 f) 6) ((x * 60 + w) * 8) (((gS P x s) * 60 + h) * 8) 0 1 0)) 6) ((x * 60 + w) * 8) ((x * 60 + h) * 8) 1 1 0))) B0 post)))))))))))) :
    SW G (j + 3) mX4_fillColumn 18 [some (vr (5)), some (vr (e)), some (vi (((w : Nat) : Int))), some (vi (((h : Nat) : Int))), some (vi (((s : Nat) : Int))), some (vi (((x : Nat) : Int))), none] [] (S nw nx g, 78 + gn, (wr c 6 f)) B0 post := by
  refine sw_iload (dX4_fillColumn_0.at 12 rfl) rfl ?_
  refine sw_iload_n (dX4_fillColumn_0.at 13 rfl) rfl rfl ?_
  refine sw_icmpN_gt x w (tgt := 86) (dX4_fillColumn_0.at 14 rfl) (by decide) hv.1 hv.2.1 (fun q => ?_) (fun q => ?_)
  · replace hv := hv.2.2.1 q
    refine sw_iconst (dX4_fillColumn_0.at 49 rfl) ?_
    refine sw_istore (lo' := [some (vr (5)), some (vr (e)), some (vi (((w : Nat) : Int))), some (vi (((h : Nat) : Int))), some (vi (((s : Nat) : Int))), some (vi (0)), none]) (dX4_fillColumn_1.at 0 rfl) (by decide) rfl ?_
    exact hv
  · replace hv := hv.2.2.2 q
    refine sw_aload_n (dX4_fillColumn_0.at 15 rfl) rfl rfl ?_
    refine sw_getR (dX4_fillColumn_0.at 16 rfl) fp_X4_59 (S_e_lt he) (S_e he) rfl rfl ?_
    refine sw_iload (dX4_fillColumn_0.at 17 rfl) rfl ?_
    refine sw_ialdN x (w := ((gE P x : Nat) : Int)) (dX4_fillColumn_0.at 18 rfl) (S_ek_lt he (by decide)) (S_e_9 he) (by decide) (GV_lt hV hv.1) (EL_E (EL_wr (a := 6) (f := f) hE he (by decide)) hv.1) ?_
    replace hv := hv.2
    refine sw_i2l (dX4_fillColumn_0.at 19 rfl) (nrng hv.1) ?_
    replace hv := hv.2
    refine sw_iload (dX4_fillColumn_0.at 20 rfl) rfl ?_
    refine sw_callN (B' := B0) (As := [vl (((gE P x : Nat) : Int)), vi (((s : Nat) : Int))]) (mc := 0) (ms := 0) (dX4_fillColumn_0.at 21 rfl) lk_X4_62 rfl rfl (Nat.le_of_ble_eq_true rfl) rfl (Nat.le_refl _) (Nat.le_refl _) ?_
    refine c_X8_hasBit (s := (gE P x)) (i := s) (j := j + 2) hv.1 hv.2.1 ?_
    replace hv := hv.2.2
    refine sw_if_eq (tgt := 80) (dX4_fillColumn_0.at 22 rfl) (by decide) (bz_rng _) (fun q => ?_) (fun q => ?_)
    · replace hv := hv.1 (bz_0 q)
      refine sw_iinc (lo' := [some (vr (5)), some (vr (e)), some (vi (((w : Nat) : Int))), some (vi (((h : Nat) : Int))), some (vi (((s : Nat) : Int))), some (vi (((x + 1 : Nat) : Int))), none]) (dX4_fillColumn_0.at 47 rfl) rfl (by decide) rfl ?_
      refine sw_goto (tgt := 18) (dX4_fillColumn_0.at 48 rfl) (by decide) ?_
      exact hv
    · replace hv := hv.2 (bz_n0 q)
      refine sw_aload_n (dX4_fillColumn_0.at 23 rfl) rfl rfl ?_
      refine sw_iload (dX4_fillColumn_0.at 24 rfl) rfl ?_
      refine sw_iload_n (dX4_fillColumn_0.at 25 rfl) rfl rfl ?_
      refine sw_callV (B' := B0) (As := [vi (((x : Nat) : Int)), vi (((w : Nat) : Int))]) (mc := 0) (ms := 0) (dX4_fillColumn_0.at 26 rfl) lk_X4_66 (S_e_lt he) (S_e he) rfl rfl (Nat.le_of_ble_eq_true rfl) rfl (Nat.le_refl _) (Nat.le_refl _) ?_
      refine c_X1_isBelow (e := e) (v := x) (w := w) (j := j + 1) he (EL_wr (a := 6) (f := f) hE he (by decide)) hV hv.1 hv.2.1 ?_
      replace hv := hv.2.2
      refine sw_if_eq (tgt := 80) (dX4_fillColumn_0.at 27 rfl) (by decide) (bz_rng _) (fun q => ?_) (fun q => ?_)
      · replace hv := hv.1 (bz_0 q)
        refine sw_iinc (lo' := [some (vr (5)), some (vr (e)), some (vi (((w : Nat) : Int))), some (vi (((h : Nat) : Int))), some (vi (((s : Nat) : Int))), some (vi (((x + 1 : Nat) : Int))), none]) (dX4_fillColumn_0.at 47 rfl) rfl (by decide) rfl ?_
        refine sw_goto (tgt := 18) (dX4_fillColumn_0.at 48 rfl) (by decide) ?_
        exact hv
      · replace hv := hv.2 (bz_n0 q)
        refine sw_aload_n (dX4_fillColumn_0.at 28 rfl) rfl rfl ?_
        refine sw_iload (dX4_fillColumn_0.at 29 rfl) rfl ?_
        refine sw_iload_n (dX4_fillColumn_0.at 30 rfl) rfl rfl ?_
        refine sw_aload_n (dX4_fillColumn_0.at 31 rfl) rfl rfl ?_
        refine sw_iload (dX4_fillColumn_0.at 32 rfl) rfl ?_
        refine sw_iload (dX4_fillColumn_0.at 33 rfl) rfl ?_
        refine sw_callV (B' := B0) (As := [vi (((x : Nat) : Int)), vi (((s : Nat) : Int))]) (mc := 0) (ms := 0) (dX4_fillColumn_0.at 34 rfl) lk_X4_69 (S_e_lt he) (S_e he) rfl rfl (Nat.le_of_ble_eq_true rfl) rfl (Nat.le_refl _) (Nat.le_refl _) ?_
        refine c_X1_byP (e := e) (x := x) (s := s) (j := j + 2) he (EL_wr (a := 6) (f := f) hE he (by decide)) hV hv.1 hv.2.1 ?_
        replace hv := hv.2.2
        refine sw_iload_n (dX4_fillColumn_0.at 35 rfl) rfl rfl ?_
        refine sw_iconst (dX4_fillColumn_0.at 36 rfl) ?_
        refine sw_iconst (dX4_fillColumn_0.at 37 rfl) ?_
        refine sw_callV (B' := B0) (As := [vi (((x : Nat) : Int)), vi (((w : Nat) : Int)), vi (((gS P x s : Nat) : Int)), vi (((h : Nat) : Int)), vi (0), vi (1)]) (mc := 0) (ms := 0) (dX4_fillColumn_0.at 38 rfl) lk_X4_72 (S_lt 5 (by decide)) (S_5 nw nx g) rfl rfl (Nat.le_of_ble_eq_true rfl) rfl (Nat.le_refl _) (Nat.le_refl _) ?_
        refine c_X4_add (v := x) (w := w) (x := (gS P x s)) (y := h) (t := 0) (o := 1) (j := j + 1) hv.1 hv.2.1 hv.2.2.1 hv.2.2.2.1 hv.2.2.2.2.1 hv.2.2.2.2.2.1 ?_
        replace hv := hv.2.2.2.2.2.2
        refine sw_aload_n (dX4_fillColumn_0.at 39 rfl) rfl rfl ?_
        refine sw_iload (dX4_fillColumn_0.at 40 rfl) rfl ?_
        refine sw_iload_n (dX4_fillColumn_0.at 41 rfl) rfl rfl ?_
        refine sw_iload (dX4_fillColumn_0.at 42 rfl) rfl ?_
        refine sw_iload_n (dX4_fillColumn_0.at 43 rfl) rfl rfl ?_
        refine sw_iconst (dX4_fillColumn_0.at 44 rfl) ?_
        refine sw_iconst (dX4_fillColumn_0.at 45 rfl) ?_
        refine sw_callV (B' := B0) (As := [vi (((x : Nat) : Int)), vi (((w : Nat) : Int)), vi (((x : Nat) : Int)), vi (((h : Nat) : Int)), vi (1), vi (1)]) (mc := 0) (ms := 0) (dX4_fillColumn_0.at 46 rfl) lk_X4_72 (S_lt 5 (by decide)) (S_5 nw nx g) rfl rfl (Nat.le_of_ble_eq_true rfl) rfl (Nat.le_refl _) (Nat.le_refl _) ?_
        refine c_X4_add (v := x) (w := w) (x := x) (y := h) (t := 1) (o := 1) (j := j + 1) hv.1 hv.2.1 hv.2.2.1 hv.2.2.2.1 hv.2.2.2.2.1 hv.2.2.2.2.2.1 ?_
        replace hv := hv.2.2.2.2.2.2
        refine sw_iinc (lo' := [some (vr (5)), some (vr (e)), some (vi (((w : Nat) : Int))), some (vi (((h : Nat) : Int))), some (vi (((s : Nat) : Int))), some (vi (((x + 1 : Nat) : Int))), none]) (dX4_fillColumn_0.at 47 rfl) rfl (by decide) rfl ?_
        refine sw_goto (tgt := 18) (dX4_fillColumn_0.at 48 rfl) (by decide) ?_
        exact hv

set_option maxHeartbeats 2000000 in
set_option maxRecDepth 20000 in
theorem g_X4_fillColumn_89 {G : GG} {j nw nx gn : Nat} {g : Nat → Sh} {c : Nat → Nat → Int} {post : Option AV → AM → Prop} {e : Nat} {w : Nat} (he : e = 21 ∨ e = 35) {P : GD} {h : Nat} {s : Nat} {x : Nat} {f : Nat → Int} (hE : EL c e P) (hV : GV P)  (hv : (x < 2147483648) ∧ (h < 2147483648) ∧ (((h ≤ x) → SW G (j + 3) mX4_fillColumn 149 [some (vr (5)), some (vr (e)), some (vi (((w : Nat) : Int))), some (vi (((h : Nat) : Int))), some (vi (((s : Nat) : Int))), some (vi (0)), none] [] (S nw nx g, 78 + gn, (wr c 6 f)) B0 post) ∧ ((¬ (h ≤ x)) → (x < gN P) ∧ ((gE P x < 2147483648) ∧ (((gE P x) < 9223372036854775808) ∧ (s < 64) ∧ (((((gE P x).testBit s) = false) → SW G (j + 3) mX4_fillColumn 89 [some (vr (5)), some (vr (e)), some (vi (((w : Nat) : Int))), some (vi (((h : Nat) : Int))), some (vi (((s : Nat) : Int))), some (vi (((x + 1 : Nat) : Int))), none] [] (S nw nx g, 78 + gn, (wr c 6 f)) B0 post) ∧ ((((gE P x).testBit s) = true) → (x < gN P) ∧ (h < gN P) ∧ ((-2147483648 ≤ muG P ((wr c 6 f) 6) x h ∧ muG P ((wr c 6 f) 6) x h < 2147483648) ∧ (((muG P ((wr c 6 f) 6) x h = 0) → SW G (j + 3) mX4_fillColumn 89 [some (vr (5)), some (vr (e)), some (vi (((w : Nat) : Int))), some (vi (((h : Nat) : Int))), some (vi (((s : Nat) : Int))), some (vi (((x + 1 : Nat) : Int))), none] [] (S nw nx g, 78 + gn, (wr c 6 f)) B0 post) ∧ ((¬ (muG P ((wr c 6 f) 6) x h = 0)) → (w < gN P) ∧ (x < w) ∧ (gL P x ≤ gL P w) ∧ (SW G (j + 3) mX4_fillColumn 89 [some (vr (5)), some (vr (e)), some (vi (((w : Nat) : Int))), some (vi (((h : Nat) : Int))), some (vi (((s : Nat) : Int))), some (vi (((x + 1 : Nat) : Int))), none] [] (S nw nx g, 78 + gn, (wr (wr c 6 f) 6 (tkS P (gA P w) w x ((gL P w - gL P x) / 2) (-(muG P ((wr c 6 f) 6) x h)) ((wr c 6 f) 6) (x + 1)))) B0 post))))))))))) :
    SW G (j + 3) mX4_fillColumn 89 [some (vr (5)), some (vr (e)), some (vi (((w : Nat) : Int))), some (vi (((h : Nat) : Int))), some (vi (((s : Nat) : Int))), some (vi (((x : Nat) : Int))), none] [] (S nw nx g, 78 + gn, (wr c 6 f)) B0 post := by
  refine sw_iload (dX4_fillColumn_1.at 1 rfl) rfl ?_
  refine sw_iload_n (dX4_fillColumn_1.at 2 rfl) rfl rfl ?_
  refine sw_icmpN_ge x h (tgt := 146) (dX4_fillColumn_1.at 3 rfl) (by decide) hv.1 hv.2.1 (fun q => ?_) (fun q => ?_)
  · replace hv := hv.2.2.1 q
    refine sw_iconst (dX4_fillColumn_1.at 30 rfl) ?_
    refine sw_istore (lo' := [some (vr (5)), some (vr (e)), some (vi (((w : Nat) : Int))), some (vi (((h : Nat) : Int))), some (vi (((s : Nat) : Int))), some (vi (0)), none]) (dX4_fillColumn_1.at 31 rfl) (by decide) rfl ?_
    exact hv
  · replace hv := hv.2.2.2 q
    refine sw_aload_n (dX4_fillColumn_1.at 4 rfl) rfl rfl ?_
    refine sw_getR (dX4_fillColumn_1.at 5 rfl) fp_X4_59 (S_e_lt he) (S_e he) rfl rfl ?_
    refine sw_iload (dX4_fillColumn_1.at 6 rfl) rfl ?_
    refine sw_ialdN x (w := ((gE P x : Nat) : Int)) (dX4_fillColumn_1.at 7 rfl) (S_ek_lt he (by decide)) (S_e_9 he) (by decide) (GV_lt hV hv.1) (EL_E (EL_wr (a := 6) (f := f) hE he (by decide)) hv.1) ?_
    replace hv := hv.2
    refine sw_i2l (dX4_fillColumn_1.at 8 rfl) (nrng hv.1) ?_
    replace hv := hv.2
    refine sw_iload (dX4_fillColumn_1.at 9 rfl) rfl ?_
    refine sw_callN (B' := B0) (As := [vl (((gE P x : Nat) : Int)), vi (((s : Nat) : Int))]) (mc := 0) (ms := 0) (dX4_fillColumn_1.at 10 rfl) lk_X4_62 rfl rfl (Nat.le_of_ble_eq_true rfl) rfl (Nat.le_refl _) (Nat.le_refl _) ?_
    refine c_X8_hasBit (s := (gE P x)) (i := s) (j := j + 2) hv.1 hv.2.1 ?_
    replace hv := hv.2.2
    refine sw_if_eq (tgt := 122) (dX4_fillColumn_1.at 11 rfl) (by decide) (bz_rng _) (fun q => ?_) (fun q => ?_)
    · replace hv := hv.1 (bz_0 q)
      refine sw_iconst (dX4_fillColumn_1.at 18 rfl) ?_
      refine sw_istore (lo' := [some (vr (5)), some (vr (e)), some (vi (((w : Nat) : Int))), some (vi (((h : Nat) : Int))), some (vi (((s : Nat) : Int))), some (vi (((x : Nat) : Int))), some (vi (0))]) (dX4_fillColumn_1.at 19 rfl) (by decide) rfl ?_
      refine sw_iload (dX4_fillColumn_1.at 20 rfl) rfl ?_
      refine sw_if_eq (tgt := 140) (dX4_fillColumn_1.at 21 rfl) (by decide) (by decide) (fun q => ?_) (fun q => ?_)
      · clear q
        refine sw_iinc (lo' := [some (vr (5)), some (vr (e)), some (vi (((w : Nat) : Int))), some (vi (((h : Nat) : Int))), some (vi (((s : Nat) : Int))), some (vi (((x + 1 : Nat) : Int))), some (vi (0))]) (dX4_fillColumn_1.at 28 rfl) rfl (by decide) rfl ?_
        refine sw_goto (tgt := 89) (dX4_fillColumn_1.at 29 rfl) (by decide) ?_
        exact sw_mask (bs := [true, true, true, true, true, true, false]) hv
      · exact absurd q (by decide)
    · replace hv := hv.2 (bz_n0 q)
      refine sw_aload_n (dX4_fillColumn_1.at 12 rfl) rfl rfl ?_
      refine sw_aload_n (dX4_fillColumn_1.at 13 rfl) rfl rfl ?_
      refine sw_iload (dX4_fillColumn_1.at 14 rfl) rfl ?_
      refine sw_iload_n (dX4_fillColumn_1.at 15 rfl) rfl rfl ?_
      refine sw_callV (B' := B0) (As := [vr (e), vi (((x : Nat) : Int)), vi (((h : Nat) : Int))]) (mc := 0) (ms := 0) (dX4_fillColumn_1.at 16 rfl) lk_X4_76 (S_lt 5 (by decide)) (S_5 nw nx g) rfl rfl (Nat.le_of_ble_eq_true rfl) rfl (Nat.le_refl _) (Nat.le_refl _) ?_
      refine c_X4_middle (e := e) (v := x) (w := h) (j := j + 1) he (EL_wr (a := 6) (f := f) hE he (by decide)) hV hv.1 hv.2.1 ?_
      replace hv := hv.2.2
      refine sw_goto (tgt := 123) (dX4_fillColumn_1.at 17 rfl) (by decide) ?_
      refine sw_istore (lo' := [some (vr (5)), some (vr (e)), some (vi (((w : Nat) : Int))), some (vi (((h : Nat) : Int))), some (vi (((s : Nat) : Int))), some (vi (((x : Nat) : Int))), some (vi (muG P ((wr c 6 f) 6) x h))]) (dX4_fillColumn_1.at 19 rfl) (by decide) rfl ?_
      refine sw_iload (dX4_fillColumn_1.at 20 rfl) rfl ?_
      refine sw_if_eq (tgt := 140) (dX4_fillColumn_1.at 21 rfl) (by decide) hv.1 (fun q => ?_) (fun q => ?_)
      · replace hv := hv.2.1 q
        refine sw_iinc (lo' := [some (vr (5)), some (vr (e)), some (vi (((w : Nat) : Int))), some (vi (((h : Nat) : Int))), some (vi (((s : Nat) : Int))), some (vi (((x + 1 : Nat) : Int))), some (vi (muG P ((wr c 6 f) 6) x h))]) (dX4_fillColumn_1.at 28 rfl) rfl (by decide) rfl ?_
        refine sw_goto (tgt := 89) (dX4_fillColumn_1.at 29 rfl) (by decide) ?_
        exact sw_mask (bs := [true, true, true, true, true, true, false]) hv
      · replace hv := hv.2.2 q
        refine sw_aload_n (dX4_fillColumn_1.at 22 rfl) rfl rfl ?_
        refine sw_aload_n (dX4_fillColumn_1.at 23 rfl) rfl rfl ?_
        refine sw_iload_n (dX4_fillColumn_1.at 24 rfl) rfl rfl ?_
        refine sw_iload (dX4_fillColumn_1.at 25 rfl) rfl ?_
        refine sw_iload (dX4_fillColumn_1.at 26 rfl) rfl ?_
        refine sw_callV (B' := B0) (As := [vr (e), vi (((w : Nat) : Int)), vi (((x : Nat) : Int)), vi (muG P ((wr c 6 f) 6) x h)]) (mc := 0) (ms := 0) (dX4_fillColumn_1.at 27 rfl) lk_X4_80 (S_lt 5 (by decide)) (S_5 nw nx g) rfl rfl (Nat.le_of_ble_eq_true rfl) rfl (Nat.le_refl _) (Nat.le_refl _) ?_
        refine c_X4_takeAway (e := e) (w := w) (z := x) (o := (muG P ((wr c 6 f) 6) x h)) (j := j + 0) he (EL_wr (a := 6) (f := f) hE he (by decide)) hV hv.1 hv.2.1 hv.2.2.1 ?_
        replace hv := hv.2.2.2
        refine sw_iinc (lo' := [some (vr (5)), some (vr (e)), some (vi (((w : Nat) : Int))), some (vi (((h : Nat) : Int))), some (vi (((s : Nat) : Int))), some (vi (((x + 1 : Nat) : Int))), some (vi (muG P ((wr c 6 f) 6) x h))]) (dX4_fillColumn_1.at 28 rfl) rfl (by decide) rfl ?_
        refine sw_goto (tgt := 89) (dX4_fillColumn_1.at 29 rfl) (by decide) ?_
        exact sw_mask (bs := [true, true, true, true, true, true, false]) hv

set_option maxHeartbeats 2000000 in
set_option maxRecDepth 20000 in
theorem g_X4_fillColumn_149 {G : GG} {j nw nx gn : Nat} {g : Nat → Sh} {c : Nat → Nat → Int} {post : Option AV → AM → Prop} {e : Nat} {w : Nat} (he : e = 21 ∨ e = 35) {P : GD} {h : Nat} {s : Nat} {x : Nat} {f : Nat → Int} (hE : EL c e P) (hV : GV P)  (hv : (x < 2147483648) ∧ (w < 2147483648) ∧ (((w < x) → post none (S nw nx g, 78 + gn, (wr c 6 f))) ∧ ((¬ (w < x)) → (x < gN P) ∧ ((gE P x < 2147483648) ∧ (((gE P x) < 9223372036854775808) ∧ (s < 64) ∧ (((((gE P x).testBit s) = false) → SW G (j + 3) mX4_fillColumn 149 [some (vr (5)), some (vr (e)), some (vi (((w : Nat) : Int))), some (vi (((h : Nat) : Int))), some (vi (((s : Nat) : Int))), some (vi (((x + 1 : Nat) : Int))), none] [] (S nw nx g, 78 + gn, (wr c 6 f)) B0 post) ∧ ((((gE P x).testBit s) = true) → (x < gN P) ∧ (w < gN P) ∧ (((((gD P w).testBit x) = false) → SW G (j + 3) mX4_fillColumn 149 [some (vr (5)), some (vr (e)), some (vi (((w : Nat) : Int))), some (vi (((h : Nat) : Int))), some (vi (((s : Nat) : Int))), some (vi (((x + 1 : Nat) : Int))), none] [] (S nw nx g, 78 + gn, (wr c 6 f)) B0 post) ∧ ((((gD P w).testBit x) = true) → (x < gN P) ∧ (s < gR P) ∧ (((gS P x s) < 60) ∧ (w < 60) ∧ (x < 60) ∧ (w < 60) ∧ (0 < 100) ∧ ((x * 60 + w) * 8 + 8 ≤ ((gS P x s) * 60 + w) * 8 ∨ ((gS P x s) * 60 + w) * 8 + 8 ≤ (x * 60 + w) * 8) ∧ (SW G (j + 3) mX4_fillColumn 149 [some (vr (5)), some (vr (e)), some (vi (((w : Nat) : Int))), some (vi (((h : Nat) : Int))), some (vi (((s : Nat) : Int))), some (vi (((x + 1 : Nat) : Int))), none] [] (S nw nx g, 78 + gn, (wr (wr c 6 f) 6 (adS ((wr c 6 f) 6) (((gS P x s) * 60 + w) * 8) ((x * 60 + w) * 8) 0 1 0))) B0 post))))))))))) :
    SW G (j + 3) mX4_fillColumn 149 [some (vr (5)), some (vr (e)), some (vi (((w : Nat) : Int))), some (vi (((h : Nat) : Int))), some (vi (((s : Nat) : Int))), some (vi (((x : Nat) : Int))), none] [] (S nw nx g, 78 + gn, (wr c 6 f)) B0 post := by
  refine sw_iload (dX4_fillColumn_1.at 32 rfl) rfl ?_
  refine sw_iload_n (dX4_fillColumn_1.at 33 rfl) rfl rfl ?_
  refine sw_icmpN_gt x w (tgt := 205) (dX4_fillColumn_1.at 34 rfl) (by decide) hv.1 hv.2.1 (fun q => ?_) (fun q => ?_)
  · replace hv := hv.2.2.1 q
    exact sw_vret (dX4_fillColumn_2.at 11 rfl) rfl (Nat.le_refl _) (Nat.le_refl _) hv
  · replace hv := hv.2.2.2 q
    refine sw_aload_n (dX4_fillColumn_1.at 35 rfl) rfl rfl ?_
    refine sw_getR (dX4_fillColumn_1.at 36 rfl) fp_X4_59 (S_e_lt he) (S_e he) rfl rfl ?_
    refine sw_iload (dX4_fillColumn_1.at 37 rfl) rfl ?_
    refine sw_ialdN x (w := ((gE P x : Nat) : Int)) (dX4_fillColumn_1.at 38 rfl) (S_ek_lt he (by decide)) (S_e_9 he) (by decide) (GV_lt hV hv.1) (EL_E (EL_wr (a := 6) (f := f) hE he (by decide)) hv.1) ?_
    replace hv := hv.2
    refine sw_i2l (dX4_fillColumn_1.at 39 rfl) (nrng hv.1) ?_
    replace hv := hv.2
    refine sw_iload (dX4_fillColumn_1.at 40 rfl) rfl ?_
    refine sw_callN (B' := B0) (As := [vl (((gE P x : Nat) : Int)), vi (((s : Nat) : Int))]) (mc := 0) (ms := 0) (dX4_fillColumn_1.at 41 rfl) lk_X4_62 rfl rfl (Nat.le_of_ble_eq_true rfl) rfl (Nat.le_refl _) (Nat.le_refl _) ?_
    refine c_X8_hasBit (s := (gE P x)) (i := s) (j := j + 2) hv.1 hv.2.1 ?_
    replace hv := hv.2.2
    refine sw_if_eq (tgt := 199) (dX4_fillColumn_1.at 42 rfl) (by decide) (bz_rng _) (fun q => ?_) (fun q => ?_)
    · replace hv := hv.1 (bz_0 q)
      refine sw_iinc (lo' := [some (vr (5)), some (vr (e)), some (vi (((w : Nat) : Int))), some (vi (((h : Nat) : Int))), some (vi (((s : Nat) : Int))), some (vi (((x + 1 : Nat) : Int))), none]) (dX4_fillColumn_2.at 9 rfl) rfl (by decide) rfl ?_
      refine sw_goto (tgt := 149) (dX4_fillColumn_2.at 10 rfl) (by decide) ?_
      exact hv
    · replace hv := hv.2 (bz_n0 q)
      refine sw_aload_n (dX4_fillColumn_1.at 43 rfl) rfl rfl ?_
      refine sw_iload (dX4_fillColumn_1.at 44 rfl) rfl ?_
      refine sw_iload_n (dX4_fillColumn_1.at 45 rfl) rfl rfl ?_
      refine sw_callV (B' := B0) (As := [vi (((x : Nat) : Int)), vi (((w : Nat) : Int))]) (mc := 0) (ms := 0) (dX4_fillColumn_1.at 46 rfl) lk_X4_66 (S_e_lt he) (S_e he) rfl rfl (Nat.le_of_ble_eq_true rfl) rfl (Nat.le_refl _) (Nat.le_refl _) ?_
      refine c_X1_isBelow (e := e) (v := x) (w := w) (j := j + 1) he (EL_wr (a := 6) (f := f) hE he (by decide)) hV hv.1 hv.2.1 ?_
      replace hv := hv.2.2
      refine sw_if_eq (tgt := 199) (dX4_fillColumn_1.at 47 rfl) (by decide) (bz_rng _) (fun q => ?_) (fun q => ?_)
      · replace hv := hv.1 (bz_0 q)
        refine sw_iinc (lo' := [some (vr (5)), some (vr (e)), some (vi (((w : Nat) : Int))), some (vi (((h : Nat) : Int))), some (vi (((s : Nat) : Int))), some (vi (((x + 1 : Nat) : Int))), none]) (dX4_fillColumn_2.at 9 rfl) rfl (by decide) rfl ?_
        refine sw_goto (tgt := 149) (dX4_fillColumn_2.at 10 rfl) (by decide) ?_
        exact hv
      · replace hv := hv.2 (bz_n0 q)
        refine sw_aload_n (dX4_fillColumn_1.at 48 rfl) rfl rfl ?_
        refine sw_aload_n (dX4_fillColumn_1.at 49 rfl) rfl rfl ?_
        refine sw_iload (dX4_fillColumn_2.at 0 rfl) rfl ?_
        refine sw_iload (dX4_fillColumn_2.at 1 rfl) rfl ?_
        refine sw_callV (B' := B0) (As := [vi (((x : Nat) : Int)), vi (((s : Nat) : Int))]) (mc := 0) (ms := 0) (dX4_fillColumn_2.at 2 rfl) lk_X4_69 (S_e_lt he) (S_e he) rfl rfl (Nat.le_of_ble_eq_true rfl) rfl (Nat.le_refl _) (Nat.le_refl _) ?_
        refine c_X1_byP (e := e) (x := x) (s := s) (j := j + 2) he (EL_wr (a := 6) (f := f) hE he (by decide)) hV hv.1 hv.2.1 ?_
        replace hv := hv.2.2
        refine sw_iload_n (dX4_fillColumn_2.at 3 rfl) rfl rfl ?_
        refine sw_iload (dX4_fillColumn_2.at 4 rfl) rfl ?_
        refine sw_iload_n (dX4_fillColumn_2.at 5 rfl) rfl rfl ?_
        refine sw_iconst (dX4_fillColumn_2.at 6 rfl) ?_
        refine sw_iconst (dX4_fillColumn_2.at 7 rfl) ?_
        refine sw_callV (B' := B0) (As := [vi (((gS P x s : Nat) : Int)), vi (((w : Nat) : Int)), vi (((x : Nat) : Int)), vi (((w : Nat) : Int)), vi (0), vi (1)]) (mc := 0) (ms := 0) (dX4_fillColumn_2.at 8 rfl) lk_X4_72 (S_lt 5 (by decide)) (S_5 nw nx g) rfl rfl (Nat.le_of_ble_eq_true rfl) rfl (Nat.le_refl _) (Nat.le_refl _) ?_
        refine c_X4_add (v := (gS P x s)) (w := w) (x := x) (y := w) (t := 0) (o := 1) (j := j + 1) hv.1 hv.2.1 hv.2.2.1 hv.2.2.2.1 hv.2.2.2.2.1 hv.2.2.2.2.2.1 ?_
        replace hv := hv.2.2.2.2.2.2
        refine sw_iinc (lo' := [some (vr (5)), some (vr (e)), some (vi (((w : Nat) : Int))), some (vi (((h : Nat) : Int))), some (vi (((s : Nat) : Int))), some (vi (((x + 1 : Nat) : Int))), none]) (dX4_fillColumn_2.at 9 rfl) rfl (by decide) rfl ?_
        refine sw_goto (tgt := 149) (dX4_fillColumn_2.at 10 rfl) (by decide) ?_
        exact hv

set_option maxHeartbeats 4000000 in
theorem lp_X4_fillColumn_149 {G : GG} {j nw nx gn : Nat} {g : Nat → Sh} {c : Nat → Nat → Int} {post : Option AV → AM → Prop} {P : GD} {e w h s : Nat} {f : Nat → Int} (he : e = 21 ∨ e = 35) (hE : EL c e P) (hV : GV P) (hw : w < gN P) (hh : h < w) (hs : s < gR P) (hd : ∀ x, x ≤ w → (gE P x).testBit s = true → (gD P w).testBit x = true → gS P x s ≠ x) (K : post none (S nw nx g, 78 + gn, wr c 6 (f3S P w s f (w + 1)))) : ∀ k x : Nat, x + k = w + 1 → SW G (j + 3) mX4_fillColumn 149 [some (vr (5)), some (vr (e)), some (vi (((w : Nat) : Int))), some (vi (((h : Nat) : Int))), some (vi (((s : Nat) : Int))), some (vi (((x : Nat) : Int))), none] [] (S nw nx g, 78 + gn, wr c 6 (f3S P w s f x)) B0 post := by
  have h60 := GV_N hV
  have h5 := GV_R hV
  intro k
  induction k with
  | zero =>
    intro x hx
    have e2 : x = w + 1 := by omega
    subst e2
    refine g_X4_fillColumn_149 he hE hV ?_
    refine ⟨?_, ?_, ⟨fun q => ?_, fun q => ⟨?_, ⟨?_, ⟨?_, ?_, ⟨fun q => ?_, fun q => ⟨?_, ?_, ⟨fun q => ?_, fun q => ⟨?_, ?_, ⟨?_, ?_, ?_, ?_, ?_, ?_, ?_⟩⟩⟩⟩⟩⟩⟩⟩⟩⟩
    all_goals first | exact K | omega | (exfalso; omega)
  | succ k ih =>
    intro x hx
    have fE := (hV.2.2.1 x (by omega)).2.2.2.2.2.1
    have fS := hV.2.2.2.1 x s (by omega) hs
    have i9 := ih (x + 1) (by omega)
    rw [f3S] at i9
    have d9 := hd x (by omega)
    refine g_X4_fillColumn_149 he hE hV ?_
    skip
    refine ⟨?_, ?_, ⟨fun q => ?_, fun q => ⟨?_, ⟨?_, ⟨?_, ?_, ⟨fun q => ?_, fun q => ⟨?_, ?_, ⟨fun q => ?_, fun q => ⟨?_, ?_, ⟨?_, ?_, ?_, ?_, ?_, ?_, ?_⟩⟩⟩⟩⟩⟩⟩⟩⟩⟩
    all_goals first | omega | assumption | (exfalso; omega) | (have d8 := d9 (by assumption) (by assumption); omega) | (simp only [*, Bool.false_eq_true, and_false, false_and, if_false, and_self, if_true] at i9; first | exact i9 | simpa only [wr_wr, wr_at] using i9)

set_option maxHeartbeats 4000000 in
theorem lp_X4_fillColumn_18 {G : GG} {j nw nx gn : Nat} {g : Nat → Sh} {c : Nat → Nat → Int} {post : Option AV → AM → Prop} {P : GD} {e w h s : Nat} {f : Nat → Int} (he : e = 21 ∨ e = 35) (hE : EL c e P) (hV : GV P) (hw : w < gN P) (hh : h < w) (hs : s < gR P) (K : SW G (j + 3) mX4_fillColumn 89 [some (vr (5)), some (vr (e)), some (vi (((w : Nat) : Int))), some (vi (((h : Nat) : Int))), some (vi (((s : Nat) : Int))), some (vi (((0 : Nat) : Int))), none] [] (S nw nx g, 78 + gn, wr c 6 (f1S P w h s f (w + 1))) B0 post) : ∀ k x : Nat, x + k = w + 1 → SW G (j + 3) mX4_fillColumn 18 [some (vr (5)), some (vr (e)), some (vi (((w : Nat) : Int))), some (vi (((h : Nat) : Int))), some (vi (((s : Nat) : Int))), some (vi (((x : Nat) : Int))), none] [] (S nw nx g, 78 + gn, wr c 6 (f1S P w h s f x)) B0 post := by
  have h60 := GV_N hV
  have h5 := GV_R hV
  intro k
  induction k with
  | zero =>
    intro x hx
    have e2 : x = w + 1 := by omega
    subst e2
    refine g_X4_fillColumn_18 he hE hV ?_
    refine ⟨?_, ?_, ⟨fun q => ?_, fun q => ⟨?_, ⟨?_, ⟨?_, ?_, ⟨fun q => ?_, fun q => ⟨?_, ?_, ⟨fun q => ?_, fun q => ⟨?_, ?_, ⟨?_, ?_, ?_, ?_, ?_, ?_, ⟨?_, ?_, ?_, ?_, ?_, ?_, ?_⟩⟩⟩⟩⟩⟩⟩⟩⟩⟩⟩
    all_goals first | exact K | omega | (exfalso; omega)
  | succ k ih =>
    intro x hx
    have fE := (hV.2.2.1 x (by omega)).2.2.2.2.2.1
    have fS := hV.2.2.2.1 x s (by omega) hs
    have i9 := ih (x + 1) (by omega)
    rw [f1S] at i9
    skip
    refine g_X4_fillColumn_18 he hE hV ?_
    skip
    refine ⟨?_, ?_, ⟨fun q => ?_, fun q => ⟨?_, ⟨?_, ⟨?_, ?_, ⟨fun q => ?_, fun q => ⟨?_, ?_, ⟨fun q => ?_, fun q => ⟨?_, ?_, ⟨?_, ?_, ?_, ?_, ?_, ?_, ⟨?_, ?_, ?_, ?_, ?_, ?_, ?_⟩⟩⟩⟩⟩⟩⟩⟩⟩⟩⟩
    all_goals first | omega | assumption | (exfalso; omega) | (simp only [*, Bool.false_eq_true, and_false, false_and, if_false, and_self, if_true] at i9; first | exact i9 | simpa only [wr_wr, wr_at] using i9)

set_option maxHeartbeats 4000000 in
theorem lp_X4_fillColumn_89 {G : GG} {j nw nx gn : Nat} {g : Nat → Sh} {c : Nat → Nat → Int} {post : Option AV → AM → Prop} {P : GD} {e w h s : Nat} {f : Nat → Int} (he : e = 21 ∨ e = 35) (hE : EL c e P) (hV : GV P) (hw : w < gN P) (hh : h < w) (hs : s < gR P) (hl : gL P h ≤ gL P w) (hB : ∀ z, z < h → -2147483648 ≤ muG P (f2S P w h s f z) z h ∧ muG P (f2S P w h s f z) z h < 2147483648) (K : SW G (j + 3) mX4_fillColumn 149 [some (vr (5)), some (vr (e)), some (vi (((w : Nat) : Int))), some (vi (((h : Nat) : Int))), some (vi (((s : Nat) : Int))), some (vi (((0 : Nat) : Int))), none] [] (S nw nx g, 78 + gn, wr c 6 (f2S P w h s f h)) B0 post) : ∀ k x : Nat, x + k = h → SW G (j + 3) mX4_fillColumn 89 [some (vr (5)), some (vr (e)), some (vi (((w : Nat) : Int))), some (vi (((h : Nat) : Int))), some (vi (((s : Nat) : Int))), some (vi (((x : Nat) : Int))), none] [] (S nw nx g, 78 + gn, wr c 6 (f2S P w h s f x)) B0 post := by
  have h60 := GV_N hV
  have h5 := GV_R hV
  intro k
  induction k with
  | zero =>
    intro x hx
    have e2 : x = h := by omega
    subst e2
    refine g_X4_fillColumn_89 he hE hV ?_
    refine ⟨?_, ?_, ⟨fun q => ?_, fun q => ⟨?_, ⟨?_, ⟨?_, ?_, ⟨fun q => ?_, fun q => ⟨?_, ?_, ⟨?_, ⟨fun q => ?_, fun q => ⟨?_, ?_, ?_, ?_⟩⟩⟩⟩⟩⟩⟩⟩⟩⟩
    all_goals first | exact K | omega | (exfalso; omega)
  | succ k ih =>
    intro x hx
    have fE := (hV.2.2.1 x (by omega)).2.2.2.2.2.1
    have fS := hV.2.2.2.1 x s (by omega) hs
    have i9 := ih (x + 1) (by omega)
    rw [f2S] at i9
    have b9 := hB x (by omega)
    have m9 : muG P (f2S P w h s f x) x h ≠ 0 → gL P x < gL P h := muG_lt
    refine g_X4_fillColumn_89 he hE hV ?_
    simp only [wr_wr, wr_at]
    refine ⟨?_, ?_, ⟨fun q => ?_, fun q => ⟨?_, ⟨?_, ⟨?_, ?_, ⟨fun q => ?_, fun q => ⟨?_, ?_, ⟨?_, ⟨fun q => ?_, fun q => ⟨?_, ?_, ?_, ?_⟩⟩⟩⟩⟩⟩⟩⟩⟩⟩
    all_goals first | omega | assumption | (exfalso; omega) | (have d8 := m9 (by assumption); omega) | (rw [if_pos ⟨by assumption, by assumption⟩] at i9; exact i9) | (simp only [*, Bool.false_eq_true, and_false, false_and, if_false, and_self, if_true] at i9; first | exact i9 | simpa only [wr_wr, wr_at] using i9)

/-- what fillColumn needs to know of the group and the row -/
def FC (P : GD) (w : Nat) (f : Nat → Int) : Prop :=
  gH P w < w ∧ gL P (gH P w) ≤ gL P w ∧
  (∀ x, x ≤ w → (gE P x).testBit (gA P w) = true → (gD P w).testBit x = true → gS P x (gA P w) ≠ x) ∧
  ∀ z, z < gH P w → -2147483648 ≤ muG P (f2S P w (gH P w) (gA P w) (f1S P w (gH P w) (gA P w) f (w + 1)) z) z (gH P w) ∧ muG P (f2S P w (gH P w) (gA P w) (f1S P w (gH P w) (gA P w) f (w + 1)) z) z (gH P w) < 2147483648
def flS (P : GD) (w : Nat) (f : Nat → Int) : Nat → Int := f3S P w (gA P w) (f2S P w (gH P w) (gA P w) (f1S P w (gH P w) (gA P w) f (w + 1)) (gH P w)) (w + 1)
set_option maxHeartbeats 2000000 in
set_option maxRecDepth 20000 in
theorem g_X4_fillColumn_0 {G : GG} {j nw nx gn : Nat} {g : Nat → Sh} {c : Nat → Nat → Int} {post : Option AV → AM → Prop} {e : Nat} {w : Nat} (he : e = 21 ∨ e = 35) {P : GD} (hE : EL c e P) (hV : GV P)  (hv : (w < gN P) ∧ ((w < gN P) ∧ (SW G (j + 3) mX4_fillColumn 18 [some (vr (5)), some (vr (e)), some (vi (((w : Nat) : Int))), some (vi (((gH P w : Nat) : Int))), some (vi (((gA P w : Nat) : Int))), some (vi (0)), none] [] (S nw nx g, 78 + gn, c) B0 post))) :
    SW G (j + 3) mX4_fillColumn 0 [some (vr (5)), some (vr (e)), some (vi (((w : Nat) : Int))), none, none, none, none] [] (S nw nx g, 78 + gn, c) B0 post := by
  refine sw_aload_n (dX4_fillColumn_0.at 0 rfl) rfl rfl ?_
  refine sw_getR (dX4_fillColumn_0.at 1 rfl) fp_X4_53 (S_e_lt he) (S_e he) rfl rfl ?_
  refine sw_iload_n (dX4_fillColumn_0.at 2 rfl) rfl rfl ?_
  refine sw_ialdN w (w := ((gH P w : Nat) : Int)) (dX4_fillColumn_0.at 3 rfl) (S_ek_lt he (by decide)) (S_e_3 he) (by decide) (GV_lt hV hv.1) (EL_H hE hv.1) ?_
  replace hv := hv.2
  refine sw_istore_n (lo' := [some (vr (5)), some (vr (e)), some (vi (((w : Nat) : Int))), some (vi (((gH P w : Nat) : Int))), none, none, none]) (dX4_fillColumn_0.at 4 rfl) rfl (by decide) rfl ?_
  refine sw_aload_n (dX4_fillColumn_0.at 5 rfl) rfl rfl ?_
  refine sw_getR (dX4_fillColumn_0.at 6 rfl) fp_X4_56 (S_e_lt he) (S_e he) rfl rfl ?_
  refine sw_iload_n (dX4_fillColumn_0.at 7 rfl) rfl rfl ?_
  refine sw_ialdN w (w := ((gA P w : Nat) : Int)) (dX4_fillColumn_0.at 8 rfl) (S_ek_lt he (by decide)) (S_e_4 he) (by decide) (GV_lt hV hv.1) (EL_A hE hv.1) ?_
  replace hv := hv.2
  refine sw_istore (lo' := [some (vr (5)), some (vr (e)), some (vi (((w : Nat) : Int))), some (vi (((gH P w : Nat) : Int))), some (vi (((gA P w : Nat) : Int))), none, none]) (dX4_fillColumn_0.at 9 rfl) (by decide) rfl ?_
  refine sw_iconst (dX4_fillColumn_0.at 10 rfl) ?_
  refine sw_istore (lo' := [some (vr (5)), some (vr (e)), some (vi (((w : Nat) : Int))), some (vi (((gH P w : Nat) : Int))), some (vi (((gA P w : Nat) : Int))), some (vi (0)), none]) (dX4_fillColumn_0.at 11 rfl) (by decide) rfl ?_
  exact hv

set_option maxHeartbeats 2000000 in
theorem c_X4_fillColumn {G : GG} {j nw nx gn : Nat} {g : Nat → Sh} {c : Nat → Nat → Int} {post : Option AV → AM → Prop} {P : GD} {e : Nat} {w : Nat} (he : e = 21 ∨ e = 35) (hE : EL c e P) (hV : GV P) (p1 : w < gN P) (p2 : FC P w (c 6)) (K : post none (S nw nx g, 78 + gn, (wr c 6 (flS P w (c 6))))) : SM G (j + 4) mX4_fillColumn [vr (5), vr (e), vi (((w : Nat) : Int))] (S nw nx g, 78 + gn, c) 0 0 post := by
  refine sm_of wX4_fillColumn rfl (Nat.le_of_ble_eq_true rfl) ?_
  refine g_X4_fillColumn_0 he hE hV ?_
  have h60 := GV_N hV
  have h1 := (hV.2.2.1 w p1)
  obtain ⟨q1, q2, q3, q4⟩ := p2
  have h3 := lp_X4_fillColumn_149 (G := G) (j := j) (nw := nw) (nx := nx) (gn := gn) (g := g) (post := post) he hE hV p1 q1 h1.2.2.1 q3 K (w + 1) 0 (by omega)
  rw [f3S] at h3
  have h4 := lp_X4_fillColumn_89 (G := G) (j := j) (nw := nw) (nx := nx) (gn := gn) (g := g) (post := post) he hE hV p1 q1 h1.2.2.1 q2 q4 h3 (gH P w) 0 (by omega)
  rw [f2S] at h4
  have h5 := lp_X4_fillColumn_18 (G := G) (j := j) (nw := nw) (nx := nx) (gn := gn) (g := g) (post := post) he hE hV p1 q1 h1.2.2.1 h4 (w + 1) 0 (by omega)
  rw [f1S, wr_self] at h5
  refine ⟨?_, ⟨?_, ?_⟩⟩
  all_goals first | omega | exact h5

