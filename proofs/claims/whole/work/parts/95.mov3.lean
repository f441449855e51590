set_option maxHeartbeats 2000000 in
set_option maxRecDepth 20000 in
theorem g_X9_areNear_0 {G : GG} {j nw nx gn : Nat} {g : Nat → Sh} {c : Nat → Nat → Int} {post : Option AV → AM → Prop} {k : Nat} {l : Nat} {wd0 : Nat}  (hv : SW G (j + 1) mX9_areNear 3 [some (vr (49)), some (vi (((k : Nat) : Int))), some (vi (((l : Nat) : Int))), some (vi (((wd0 : Nat) : Int))), some (vi (0)), none] [] (S nw nx g, 78 + gn, c) B0 post) :
    SW G (j + 1) mX9_areNear 0 [some (vr (49)), some (vi (((k : Nat) : Int))), some (vi (((l : Nat) : Int))), some (vi (((wd0 : Nat) : Int))), none, none] [] (S nw nx g, 78 + gn, c) B0 post := by
  refine sw_iconst (dX9_areNear.at 0 rfl) ?_
  refine sw_istore (lo' := [some (vr (49)), some (vi (((k : Nat) : Int))), some (vi (((l : Nat) : Int))), some (vi (((wd0 : Nat) : Int))), some (vi (0)), none]) (dX9_areNear.at 1 rfl) (by decide) rfl ?_
  exact hv

set_option maxHeartbeats 2000000 in
theorem c_X9_areNear {G : GG} {j nw nx gn : Nat} {g : Nat → Sh} {c : Nat → Nat → Int} {post : Option AV → AM → Prop} {P : GD} {x : Nat} {k : Nat} {l : Nat} {wd0 : Nat} (hM : ML c P) (hV : GV P) (hRw : RWS P x c) (p1 : x < gN P) (p2 : k < gW P x) (p3 : l < gW P x) (p4 : wd0 = gL P x) (K : post (some (vi (bz (nbR P x k l)))) (S nw nx g, 78 + gn, c)) : SM G (j + 2) mX9_areNear [vr (49), vi (((k : Nat) : Int)), vi (((l : Nat) : Int)), vi (((wd0 : Nat) : Int))] (S nw nx g, 78 + gn, c) 0 0 post := by
  refine sm_of wX9_areNear rfl (Nat.le_of_ble_eq_true rfl) ?_
  refine g_X9_areNear_0  ?_
  subst p4
  refine ?_
  all_goals first | assumption | omega | exact lp_X9_areNear_3 hM hV hRw p1 p2 p3 (gL P x - 1) 0 (by omega) K

abbrev RX (P : GD) (x : Nat) (F : Nat → Int) (f : Nat → Nat) : Prop := ∀ y, y < gW P x → F y = ((f y : Nat) : Int)
theorem RX_u {P : GD} {x : Nat} {F : Nat → Int} {f : Nat → Nat} (h : RX P x F f) {k v : Nat} : RX P x (u1 F k ((v : Nat) : Int)) (uN f k v) := by
  intro y hy
  by_cases e : y = k
  · rw [e, u1_eq, uN_eq]
  · rw [u1_ne e, uN_ne e]; exact h y hy
theorem wlt {P : GD} (hV : GV P) {x : Nat} (hx : x < gN P) {i : Nat} (hi : i < gW P x) : i < 300 := by
  have := (hV.2.2.1 x hx).2.2.2.2.2.2.2.1
  omega
set_option maxHeartbeats 2000000 in
set_option maxRecDepth 20000 in
theorem g_X9_moves_119 {G : GG} {j nw nx gn : Nat} {g : Nat → Sh} {c : Nat → Nat → Int} {post : Option AV → AM → Prop} {x : Nat} {k : Nat} {l : Nat} {P : GD} {t : Nat} {i : Nat} {y : Nat} {F : Nat → Int} {f : Nat → Nat} (hM : ML c P) (hV : GV P) (hRw : RWS P x c) (hx : x < gN P) (hF : RX P x F f)  (hv : (y < 2147483648) ∧ (gW P x < 2147483648) ∧ (((gW P x ≤ y) → SW G (j + 17) mX9_moves 107 [some (vr (49)), some (vi (((x : Nat) : Int))), some (vi (((k : Nat) : Int))), some (vi (((l : Nat) : Int))), some (vi (((t : Nat) : Int))), some (vi (((i + 1 : Nat) : Int))), none] [] (S nw nx g, 78 + gn, (wr c 63 F)) B0 post) ∧ ((¬ (gW P x ≤ y)) → (i < gW P x) ∧ ((f i < 2147483648) ∧ (t < 2147483648) ∧ (((f i ≠ t) → SW G (j + 17) mX9_moves 107 [some (vr (49)), some (vi (((x : Nat) : Int))), some (vi (((k : Nat) : Int))), some (vi (((l : Nat) : Int))), some (vi (((t : Nat) : Int))), some (vi (((i + 1 : Nat) : Int))), none] [] (S nw nx g, 78 + gn, (wr c 63 F)) B0 post) ∧ ((f i = t) → (y < gW P x) ∧ ((f y < 2147483648) ∧ (((f y ≠ 1000000) → SW G (j + 17) mX9_moves 119 [some (vr (49)), some (vi (((x : Nat) : Int))), some (vi (((k : Nat) : Int))), some (vi (((l : Nat) : Int))), some (vi (((t : Nat) : Int))), some (vi (((i : Nat) : Int))), some (vi (((y + 1 : Nat) : Int)))] [] (S nw nx g, 78 + gn, (wr c 63 F)) B0 post) ∧ ((f y = 1000000) → (x < gN P) ∧ ((x < gN P) ∧ (i < gW P x) ∧ (y < gW P x) ∧ ((gL P x) = gL P x) ∧ ((((nbR P x i y) = false) → SW G (j + 17) mX9_moves 119 [some (vr (49)), some (vi (((x : Nat) : Int))), some (vi (((k : Nat) : Int))), some (vi (((l : Nat) : Int))), some (vi (((t : Nat) : Int))), some (vi (((i : Nat) : Int))), some (vi (((y + 1 : Nat) : Int)))] [] (S nw nx g, 78 + gn, (wr c 63 F)) B0 post) ∧ (((nbR P x i y) = true) → (y < 300) ∧ (SW G (j + 17) mX9_moves 119 [some (vr (49)), some (vi (((x : Nat) : Int))), some (vi (((k : Nat) : Int))), some (vi (((l : Nat) : Int))), some (vi (((t : Nat) : Int))), some (vi (((i : Nat) : Int))), some (vi (((y + 1 : Nat) : Int)))] [] (S nw nx g, 78 + gn, (wr c 63 (u1 F y ((t + 1 : Nat) : Int)))) B0 post))))))))))))) :
    SW G (j + 17) mX9_moves 119 [some (vr (49)), some (vi (((x : Nat) : Int))), some (vi (((k : Nat) : Int))), some (vi (((l : Nat) : Int))), some (vi (((t : Nat) : Int))), some (vi (((i : Nat) : Int))), some (vi (((y : Nat) : Int)))] [] (S nw nx g, 78 + gn, (wr c 63 F)) B0 post := by
  refine sw_iload (dX9_moves_1.at 15 rfl) rfl ?_
  refine sw_aload_n (dX9_moves_1.at 16 rfl) rfl rfl ?_
  refine sw_getIE (w := ((gW P x : Nat) : Int)) (dX9_moves_1.at 17 rfl) fp_X9_261 (S_lt 49 (by decide)) (S_49 nw nx g) rfl ((wr_off (c := c) (a := 63) (f := F) (i := 49) (k := 27) (by decide)).trans hRw.1) ?_
  refine sw_icmpN_ge y (gW P x) (tgt := 187) (dX9_moves_1.at 18 rfl) (by decide) hv.1 hv.2.1 (fun q => ?_) (fun q => ?_)
  · replace hv := hv.2.2.1 q
    refine sw_iinc (lo' := [some (vr (49)), some (vi (((x : Nat) : Int))), some (vi (((k : Nat) : Int))), some (vi (((l : Nat) : Int))), some (vi (((t : Nat) : Int))), some (vi (((i + 1 : Nat) : Int))), some (vi (((y : Nat) : Int)))]) (dX9_moves_1.at 49 rfl) rfl (by decide) rfl ?_
    refine sw_goto (tgt := 107) (dX9_moves_2.at 0 rfl) (by decide) ?_
    exact sw_mask (bs := [true, true, true, true, true, true, false]) hv
  · replace hv := hv.2.2.2 q
    refine sw_aload_n (dX9_moves_1.at 19 rfl) rfl rfl ?_
    refine sw_getR (dX9_moves_1.at 20 rfl) fp_X9_53 (S_lt 49 (by decide)) (S_49 nw nx g) rfl rfl ?_
    refine sw_iload (dX9_moves_1.at 21 rfl) rfl ?_
    refine sw_ialdN i (w := ((f i : Nat) : Int)) (dX9_moves_1.at 22 rfl) (S_lt 63 (by decide)) (S_63 nw nx g) (by decide) (wlt hV hx hv.1) (hF _ hv.1) ?_
    replace hv := hv.2
    refine sw_iload (dX9_moves_1.at 23 rfl) rfl ?_
    refine sw_icmpN_ne (f i) t (tgt := 187) (dX9_moves_1.at 24 rfl) (by decide) hv.1 hv.2.1 (fun q => ?_) (fun q => ?_)
    · replace hv := hv.2.2.1 q
      refine sw_iinc (lo' := [some (vr (49)), some (vi (((x : Nat) : Int))), some (vi (((k : Nat) : Int))), some (vi (((l : Nat) : Int))), some (vi (((t : Nat) : Int))), some (vi (((i + 1 : Nat) : Int))), some (vi (((y : Nat) : Int)))]) (dX9_moves_1.at 49 rfl) rfl (by decide) rfl ?_
      refine sw_goto (tgt := 107) (dX9_moves_2.at 0 rfl) (by decide) ?_
      exact sw_mask (bs := [true, true, true, true, true, true, false]) hv
    · replace hv := hv.2.2.2 q
      refine sw_aload_n (dX9_moves_1.at 25 rfl) rfl rfl ?_
      refine sw_getR (dX9_moves_1.at 26 rfl) fp_X9_53 (S_lt 49 (by decide)) (S_49 nw nx g) rfl rfl ?_
      refine sw_iload (dX9_moves_1.at 27 rfl) rfl ?_
      refine sw_ialdN y (w := ((f y : Nat) : Int)) (dX9_moves_1.at 28 rfl) (S_lt 63 (by decide)) (S_63 nw nx g) (by decide) (wlt hV hx hv.1) (hF _ hv.1) ?_
      replace hv := hv.2
      refine sw_ldcw (z := 1000000) (dX9_moves_1.at 29 rfl) kc_X9_274 (by decide) ?_
      refine sw_icmpN_ne (f y) 1000000 (tgt := 181) (dX9_moves_1.at 30 rfl) (by decide) hv.1 (by decide) (fun q => ?_) (fun q => ?_)
      · replace hv := hv.2.1 q
        refine sw_iinc (lo' := [some (vr (49)), some (vi (((x : Nat) : Int))), some (vi (((k : Nat) : Int))), some (vi (((l : Nat) : Int))), some (vi (((t : Nat) : Int))), some (vi (((i : Nat) : Int))), some (vi (((y + 1 : Nat) : Int)))]) (dX9_moves_1.at 47 rfl) rfl (by decide) rfl ?_
        refine sw_goto (tgt := 119) (dX9_moves_1.at 48 rfl) (by decide) ?_
        exact hv
      · replace hv := hv.2.2 q
        refine sw_aload_n (dX9_moves_1.at 31 rfl) rfl rfl ?_
        refine sw_iload (dX9_moves_1.at 32 rfl) rfl ?_
        refine sw_iload (dX9_moves_1.at 33 rfl) rfl ?_
        refine sw_aload_n (dX9_moves_1.at 34 rfl) rfl rfl ?_
        refine sw_getR (dX9_moves_1.at 35 rfl) fp_X9_32 (S_lt 49 (by decide)) (S_49 nw nx g) rfl rfl ?_
        refine sw_iload_n (dX9_moves_1.at 36 rfl) rfl rfl ?_
        refine sw_ialdN x (w := ((gL P x : Nat) : Int)) (dX9_moves_1.at 37 rfl) (S_lt 56 (by decide)) (S_56 nw nx g) (by decide) (GV_lt hV hv.1) (ML_L (ML_SC hM (SC_wr SC_rf (a := 63) (f := F) (by decide))) hv.1) ?_
        replace hv := hv.2
        refine sw_callV (B' := B0) (As := [vi (((i : Nat) : Int)), vi (((y : Nat) : Int)), vi (((gL P x : Nat) : Int))]) (mc := 0) (ms := 0) (dX9_moves_1.at 38 rfl) lk_X9_275 (S_lt 49 (by decide)) (S_49 nw nx g) rfl rfl (Nat.le_of_ble_eq_true rfl) rfl (Nat.le_refl _) (Nat.le_refl _) ?_
        refine c_X9_areNear (k := i) (l := y) (wd0 := (gL P x)) (j := j + 15) (ML_SC hM (SC_wr SC_rf (a := 63) (f := F) (by decide))) hV (RWS_wr hRw) hv.1 hv.2.1 hv.2.2.1 hv.2.2.2.1 ?_
        replace hv := hv.2.2.2.2
        refine sw_if_eq (tgt := 181) (dX9_moves_1.at 39 rfl) (by decide) (bz_rng _) (fun q => ?_) (fun q => ?_)
        · replace hv := hv.1 (bz_0 q)
          refine sw_iinc (lo' := [some (vr (49)), some (vi (((x : Nat) : Int))), some (vi (((k : Nat) : Int))), some (vi (((l : Nat) : Int))), some (vi (((t : Nat) : Int))), some (vi (((i : Nat) : Int))), some (vi (((y + 1 : Nat) : Int)))]) (dX9_moves_1.at 47 rfl) rfl (by decide) rfl ?_
          refine sw_goto (tgt := 119) (dX9_moves_1.at 48 rfl) (by decide) ?_
          exact hv
        · replace hv := hv.2 (bz_n0 q)
          refine sw_aload_n (dX9_moves_1.at 40 rfl) rfl rfl ?_
          refine sw_getR (dX9_moves_1.at 41 rfl) fp_X9_53 (S_lt 49 (by decide)) (S_49 nw nx g) rfl rfl ?_
          refine sw_iload (dX9_moves_1.at 42 rfl) rfl ?_
          refine sw_iload (dX9_moves_1.at 43 rfl) rfl ?_
          refine sw_iconst (dX9_moves_1.at 44 rfl) ?_
          refine sw_iadd (dX9_moves_1.at 45 rfl) ?_
          refine sw_topI (y := ((t + 1 : Nat) : Int)) (by first | rfl | (congr 1)) ?_
          refine sw_iastN y (dX9_moves_1.at 46 rfl) (S_lt 63 (by decide)) (S_63 nw nx g) (by decide) hv.1 ?_
          refine SW.cg (M' := (S nw nx g, 78 + gn, (wr c 63 (u1 F y ((t + 1 : Nat) : Int))))) (congrArg (fun m => (S nw nx g, 78 + gn, m)) (wr_up c 63 F y ((t + 1 : Nat) : Int))) ?_
          replace hv := hv.2
          refine sw_iinc (lo' := [some (vr (49)), some (vi (((x : Nat) : Int))), some (vi (((k : Nat) : Int))), some (vi (((l : Nat) : Int))), some (vi (((t : Nat) : Int))), some (vi (((i : Nat) : Int))), some (vi (((y + 1 : Nat) : Int)))]) (dX9_moves_1.at 47 rfl) rfl (by decide) rfl ?_
          refine sw_goto (tgt := 119) (dX9_moves_1.at 48 rfl) (by decide) ?_
          exact hv

set_option maxHeartbeats 2000000 in
set_option maxRecDepth 20000 in
theorem g_X9_moves_107 {G : GG} {j nw nx gn : Nat} {g : Nat → Sh} {c : Nat → Nat → Int} {post : Option AV → AM → Prop} {x : Nat} {k : Nat} {l : Nat} {P : GD} {t : Nat} {i : Nat} {F : Nat → Int} {f : Nat → Nat} (hM : ML c P) (hV : GV P) (hRw : RWS P x c) (hx : x < gN P) (hF : RX P x F f)  (hv : (i < 2147483648) ∧ (gW P x < 2147483648) ∧ (((gW P x ≤ i) → SW G (j + 17) mX9_moves 92 [some (vr (49)), some (vi (((x : Nat) : Int))), some (vi (((k : Nat) : Int))), some (vi (((l : Nat) : Int))), some (vi (((t + 1 : Nat) : Int))), none, none] [] (S nw nx g, 78 + gn, (wr c 63 F)) B0 post) ∧ ((¬ (gW P x ≤ i)) → SW G (j + 17) mX9_moves 119 [some (vr (49)), some (vi (((x : Nat) : Int))), some (vi (((k : Nat) : Int))), some (vi (((l : Nat) : Int))), some (vi (((t : Nat) : Int))), some (vi (((i : Nat) : Int))), some (vi (0))] [] (S nw nx g, 78 + gn, (wr c 63 F)) B0 post))) :
    SW G (j + 17) mX9_moves 107 [some (vr (49)), some (vi (((x : Nat) : Int))), some (vi (((k : Nat) : Int))), some (vi (((l : Nat) : Int))), some (vi (((t : Nat) : Int))), some (vi (((i : Nat) : Int))), none] [] (S nw nx g, 78 + gn, (wr c 63 F)) B0 post := by
  refine sw_iload (dX9_moves_1.at 9 rfl) rfl ?_
  refine sw_aload_n (dX9_moves_1.at 10 rfl) rfl rfl ?_
  refine sw_getIE (w := ((gW P x : Nat) : Int)) (dX9_moves_1.at 11 rfl) fp_X9_261 (S_lt 49 (by decide)) (S_49 nw nx g) rfl ((wr_off (c := c) (a := 63) (f := F) (i := 49) (k := 27) (by decide)).trans hRw.1) ?_
  refine sw_icmpN_ge i (gW P x) (tgt := 193) (dX9_moves_1.at 12 rfl) (by decide) hv.1 hv.2.1 (fun q => ?_) (fun q => ?_)
  · replace hv := hv.2.2.1 q
    refine sw_iinc (lo' := [some (vr (49)), some (vi (((x : Nat) : Int))), some (vi (((k : Nat) : Int))), some (vi (((l : Nat) : Int))), some (vi (((t + 1 : Nat) : Int))), some (vi (((i : Nat) : Int))), none]) (dX9_moves_2.at 1 rfl) rfl (by decide) rfl ?_
    refine sw_goto (tgt := 92) (dX9_moves_2.at 2 rfl) (by decide) ?_
    exact sw_mask (bs := [true, true, true, true, true, false, false]) hv
  · replace hv := hv.2.2.2 q
    refine sw_iconst (dX9_moves_1.at 13 rfl) ?_
    refine sw_istore (lo' := [some (vr (49)), some (vi (((x : Nat) : Int))), some (vi (((k : Nat) : Int))), some (vi (((l : Nat) : Int))), some (vi (((t : Nat) : Int))), some (vi (((i : Nat) : Int))), some (vi (0))]) (dX9_moves_1.at 14 rfl) (by decide) rfl ?_
    exact hv

set_option maxHeartbeats 2000000 in
set_option maxRecDepth 20000 in
theorem g_X9_moves_92 {G : GG} {j nw nx gn : Nat} {g : Nat → Sh} {c : Nat → Nat → Int} {post : Option AV → AM → Prop} {x : Nat} {k : Nat} {l : Nat} {P : GD} {t : Nat} {F : Nat → Int} {f : Nat → Nat} (hM : ML c P) (hV : GV P) (hRw : RWS P x c) (hx : x < gN P) (hF : RX P x F f)  (hv : (l < gW P x) ∧ ((f l < 2147483648) ∧ (((f l ≠ 1000000) → (l < gW P x) ∧ (post (some (vi (((f l : Nat) : Int)))) (S nw nx g, 78 + gn, (wr c 63 F)))) ∧ ((f l = 1000000) → SW G (j + 17) mX9_moves 107 [some (vr (49)), some (vi (((x : Nat) : Int))), some (vi (((k : Nat) : Int))), some (vi (((l : Nat) : Int))), some (vi (((t : Nat) : Int))), some (vi (0)), none] [] (S nw nx g, 78 + gn, (wr c 63 F)) B0 post)))) :
    SW G (j + 17) mX9_moves 92 [some (vr (49)), some (vi (((x : Nat) : Int))), some (vi (((k : Nat) : Int))), some (vi (((l : Nat) : Int))), some (vi (((t : Nat) : Int))), none, none] [] (S nw nx g, 78 + gn, (wr c 63 F)) B0 post := by
  refine sw_aload_n (dX9_moves_1.at 1 rfl) rfl rfl ?_
  refine sw_getR (dX9_moves_1.at 2 rfl) fp_X9_53 (S_lt 49 (by decide)) (S_49 nw nx g) rfl rfl ?_
  refine sw_iload_n (dX9_moves_1.at 3 rfl) rfl rfl ?_
  refine sw_ialdN l (w := ((f l : Nat) : Int)) (dX9_moves_1.at 4 rfl) (S_lt 63 (by decide)) (S_63 nw nx g) (by decide) (wlt hV hx hv.1) (hF _ hv.1) ?_
  replace hv := hv.2
  refine sw_ldcw (z := 1000000) (dX9_moves_1.at 5 rfl) kc_X9_274 (by decide) ?_
  refine sw_icmpN_ne (f l) 1000000 (tgt := 199) (dX9_moves_1.at 6 rfl) (by decide) hv.1 (by decide) (fun q => ?_) (fun q => ?_)
  · replace hv := hv.2.1 q
    refine sw_aload_n (dX9_moves_2.at 3 rfl) rfl rfl ?_
    refine sw_getR (dX9_moves_2.at 4 rfl) fp_X9_53 (S_lt 49 (by decide)) (S_49 nw nx g) rfl rfl ?_
    refine sw_iload_n (dX9_moves_2.at 5 rfl) rfl rfl ?_
    refine sw_ialdN l (w := ((f l : Nat) : Int)) (dX9_moves_2.at 6 rfl) (S_lt 63 (by decide)) (S_63 nw nx g) (by decide) (wlt hV hx hv.1) (hF _ hv.1) ?_
    replace hv := hv.2
    exact sw_iret (dX9_moves_2.at 7 rfl) rfl (Nat.le_refl _) (Nat.le_refl _) hv
  · replace hv := hv.2.2 q
    refine sw_iconst (dX9_moves_1.at 7 rfl) ?_
    refine sw_istore (lo' := [some (vr (49)), some (vi (((x : Nat) : Int))), some (vi (((k : Nat) : Int))), some (vi (((l : Nat) : Int))), some (vi (((t : Nat) : Int))), some (vi (0)), none]) (dX9_moves_1.at 8 rfl) (by decide) rfl ?_
    exact hv

set_option maxHeartbeats 2000000 in
set_option maxRecDepth 20000 in
theorem g_X9_moves_54 {G : GG} {j nw nx gn : Nat} {g : Nat → Sh} {c : Nat → Nat → Int} {post : Option AV → AM → Prop} {x : Nat} {k : Nat} {l : Nat} {P : GD} {t : Nat} {F : Nat → Int} (hM : ML c P) (hV : GV P) (hRw : RWS P x c) (hx : x < gN P)  (hv : (t < 2147483648) ∧ (gW P x < 2147483648) ∧ (((gW P x ≤ t) → SW G (j + 17) mX9_moves 92 [some (vr (49)), some (vi (((x : Nat) : Int))), some (vi (((k : Nat) : Int))), some (vi (((l : Nat) : Int))), some (vi (0)), none, none] [] (S nw nx g, 78 + gn, (wr c 63 F)) B0 post) ∧ ((¬ (gW P x ≤ t)) → (t < 2147483648) ∧ (k < 2147483648) ∧ (((t ≠ k) → (t < 300) ∧ (SW G (j + 17) mX9_moves 54 [some (vr (49)), some (vi (((x : Nat) : Int))), some (vi (((k : Nat) : Int))), some (vi (((l : Nat) : Int))), some (vi (((t + 1 : Nat) : Int))), none, none] [] (S nw nx g, 78 + gn, (wr c 63 (u1 F t 1000000))) B0 post)) ∧ ((t = k) → (t < 300) ∧ (SW G (j + 17) mX9_moves 54 [some (vr (49)), some (vi (((x : Nat) : Int))), some (vi (((k : Nat) : Int))), some (vi (((l : Nat) : Int))), some (vi (((t + 1 : Nat) : Int))), none, none] [] (S nw nx g, 78 + gn, (wr c 63 (u1 F t 0))) B0 post)))))) :
    SW G (j + 17) mX9_moves 54 [some (vr (49)), some (vi (((x : Nat) : Int))), some (vi (((k : Nat) : Int))), some (vi (((l : Nat) : Int))), some (vi (((t : Nat) : Int))), none, none] [] (S nw nx g, 78 + gn, (wr c 63 F)) B0 post := by
  refine sw_iload (dX9_moves_0.at 33 rfl) rfl ?_
  refine sw_aload_n (dX9_moves_0.at 34 rfl) rfl rfl ?_
  refine sw_getIE (w := ((gW P x : Nat) : Int)) (dX9_moves_0.at 35 rfl) fp_X9_261 (S_lt 49 (by decide)) (S_49 nw nx g) rfl ((wr_off (c := c) (a := 63) (f := F) (i := 49) (k := 27) (by decide)).trans hRw.1) ?_
  refine sw_icmpN_ge t (gW P x) (tgt := 89) (dX9_moves_0.at 36 rfl) (by decide) hv.1 hv.2.1 (fun q => ?_) (fun q => ?_)
  · replace hv := hv.2.2.1 q
    refine sw_iconst (dX9_moves_0.at 49 rfl) ?_
    refine sw_istore (lo' := [some (vr (49)), some (vi (((x : Nat) : Int))), some (vi (((k : Nat) : Int))), some (vi (((l : Nat) : Int))), some (vi (0)), none, none]) (dX9_moves_1.at 0 rfl) (by decide) rfl ?_
    exact hv
  · replace hv := hv.2.2.2 q
    refine sw_aload_n (dX9_moves_0.at 37 rfl) rfl rfl ?_
    refine sw_getR (dX9_moves_0.at 38 rfl) fp_X9_53 (S_lt 49 (by decide)) (S_49 nw nx g) rfl rfl ?_
    refine sw_iload (dX9_moves_0.at 39 rfl) rfl ?_
    refine sw_iload (dX9_moves_0.at 40 rfl) rfl ?_
    refine sw_iload_n (dX9_moves_0.at 41 rfl) rfl rfl ?_
    refine sw_icmpN_ne t k (tgt := 79) (dX9_moves_0.at 42 rfl) (by decide) hv.1 hv.2.1 (fun q => ?_) (fun q => ?_)
    · replace hv := hv.2.2.1 q
      refine sw_ldcw (z := 1000000) (dX9_moves_0.at 45 rfl) kc_X9_274 (by decide) ?_
      refine sw_iastN t (dX9_moves_0.at 46 rfl) (S_lt 63 (by decide)) (S_63 nw nx g) (by decide) hv.1 ?_
      refine SW.cg (M' := (S nw nx g, 78 + gn, (wr c 63 (u1 F t 1000000)))) (congrArg (fun m => (S nw nx g, 78 + gn, m)) (wr_up c 63 F t 1000000)) ?_
      replace hv := hv.2
      refine sw_iinc (lo' := [some (vr (49)), some (vi (((x : Nat) : Int))), some (vi (((k : Nat) : Int))), some (vi (((l : Nat) : Int))), some (vi (((t + 1 : Nat) : Int))), none, none]) (dX9_moves_0.at 47 rfl) rfl (by decide) rfl ?_
      refine sw_goto (tgt := 54) (dX9_moves_0.at 48 rfl) (by decide) ?_
      exact hv
    · replace hv := hv.2.2.2 q
      refine sw_iconst (dX9_moves_0.at 43 rfl) ?_
      refine sw_goto (tgt := 82) (dX9_moves_0.at 44 rfl) (by decide) ?_
      refine sw_iastN t (dX9_moves_0.at 46 rfl) (S_lt 63 (by decide)) (S_63 nw nx g) (by decide) hv.1 ?_
      refine SW.cg (M' := (S nw nx g, 78 + gn, (wr c 63 (u1 F t 0)))) (congrArg (fun m => (S nw nx g, 78 + gn, m)) (wr_up c 63 F t 0)) ?_
      replace hv := hv.2
      refine sw_iinc (lo' := [some (vr (49)), some (vi (((x : Nat) : Int))), some (vi (((k : Nat) : Int))), some (vi (((l : Nat) : Int))), some (vi (((t + 1 : Nat) : Int))), none, none]) (dX9_moves_0.at 47 rfl) rfl (by decide) rfl ?_
      refine sw_goto (tgt := 54) (dX9_moves_0.at 48 rfl) (by decide) ?_
      exact hv

set_option maxHeartbeats 4000000 in
theorem mv_119 {G : GG} {j nw nx gn : Nat} {g : Nat → Sh} {c : Nat → Nat → Int} {post : Option AV → AM → Prop} {P : GD} {x k l t i : Nat} {d : Nat → Nat} (hM : ML c P) (hV : GV P) (hRw : RWS P x c) (hx : x < gN P) (hd : DP P x k d) (ht : t < 100000) (hi : i < gW P x) (K : ∀ (F : Nat → Int) (f : Nat → Nat), RX P x F f → MVt P x d t (i + 1) 0 f → SW G (j + 17) mX9_moves 107 [some (vr (49)), some (vi (((x : Nat) : Int))), some (vi (((k : Nat) : Int))), some (vi (((l : Nat) : Int))), some (vi (((t : Nat) : Int))), some (vi (((i + 1 : Nat) : Int))), none] [] (S nw nx g, 78 + gn, (wr c 63 F)) B0 post) : ∀ (n y : Nat) (F : Nat → Int) (f : Nat → Nat), y + n = gW P x → RX P x F f → MVt P x d t i y f → SW G (j + 17) mX9_moves 119 [some (vr (49)), some (vi (((x : Nat) : Int))), some (vi (((k : Nat) : Int))), some (vi (((l : Nat) : Int))), some (vi (((t : Nat) : Int))), some (vi (((i : Nat) : Int))), some (vi (((y : Nat) : Int)))] [] (S nw nx g, 78 + gn, (wr c 63 F)) B0 post := by
  have h60 := GV_N hV
  have w9 := (hV.2.2.1 x hx).2.2.2.2.2.2.2.1
  have l13 := (hV.2.2.1 x hx).1
  intro n
  induction n with
  | zero =>
    intro y F f hq hF hT
    refine g_X9_moves_119 hM hV hRw hx hF ?_
    refine ⟨?_, ?_, ⟨fun q => ?_, fun q => ⟨?_, ⟨?_, ?_, ⟨fun q => ?_, fun q => ⟨?_, ⟨?_, ⟨fun q => ?_, fun q => ⟨?_, ⟨?_, ?_, ?_, ?_, ⟨fun q => ?_, fun q => ⟨?_, ?_⟩⟩⟩⟩⟩⟩⟩⟩⟩⟩⟩⟩
    all_goals first | omega | exact K F f hF (MV_row hd hT hi ht (Or.inl (by omega))) | (exfalso; omega)
  | succ n ih =>
    intro y F f hq hF hT
    have hq2 : y < gW P x := by omega
    have b1 := (MV_at hd hT hi ht).1
    have b2 := (MV_at hd hT hq2 ht).1
    refine g_X9_moves_119 hM hV hRw hx hF ?_
    by_cases e : f i = t
    · refine ⟨?_, ?_, ⟨fun q => ?_, fun q => ⟨?_, ⟨?_, ?_, ⟨fun q => ?_, fun q => ⟨?_, ⟨?_, ⟨fun q => ?_, fun q => ⟨?_, ⟨?_, ?_, ?_, ?_, ⟨fun q => ?_, fun q => ⟨?_, ?_⟩⟩⟩⟩⟩⟩⟩⟩⟩⟩⟩⟩
      all_goals first | omega | assumption | rfl | (exfalso; omega) | exact ih _ _ _ (by omega) (RX_u hF) (MV_set hd hT hi hq2 ht e (by omega) (by assumption)) | exact ih _ F f (by omega) hF (MV_pass hd hT hq2 (Or.inl (by omega))) | exact ih _ F f (by omega) hF (MV_pass hd hT hq2 (Or.inr (by assumption)))
    · refine ⟨?_, ?_, ⟨fun q => ?_, fun q => ⟨?_, ⟨?_, ?_, ⟨fun q => ?_, fun q => ⟨?_, ⟨?_, ⟨fun q => ?_, fun q => ⟨?_, ⟨?_, ?_, ?_, ?_, ⟨fun q => ?_, fun q => ⟨?_, ?_⟩⟩⟩⟩⟩⟩⟩⟩⟩⟩⟩⟩
      all_goals first | omega | assumption | rfl | exact K F f hF (MV_row hd hT hi ht (Or.inr e)) | (exfalso; omega)
set_option maxHeartbeats 4000000 in
theorem mv_107 {G : GG} {j nw nx gn : Nat} {g : Nat → Sh} {c : Nat → Nat → Int} {post : Option AV → AM → Prop} {P : GD} {x k l t : Nat} {d : Nat → Nat} (hM : ML c P) (hV : GV P) (hRw : RWS P x c) (hx : x < gN P) (hd : DP P x k d) (ht : t < 100000) (K : ∀ (F : Nat → Int) (f : Nat → Nat), RX P x F f → MSt P x d (t + 1) f → SW G (j + 17) mX9_moves 92 [some (vr (49)), some (vi (((x : Nat) : Int))), some (vi (((k : Nat) : Int))), some (vi (((l : Nat) : Int))), some (vi (((t + 1 : Nat) : Int))), none, none] [] (S nw nx g, 78 + gn, (wr c 63 F)) B0 post) : ∀ (n i : Nat) (F : Nat → Int) (f : Nat → Nat), i + n = gW P x → RX P x F f → MVt P x d t i 0 f → SW G (j + 17) mX9_moves 107 [some (vr (49)), some (vi (((x : Nat) : Int))), some (vi (((k : Nat) : Int))), some (vi (((l : Nat) : Int))), some (vi (((t : Nat) : Int))), some (vi (((i : Nat) : Int))), none] [] (S nw nx g, 78 + gn, (wr c 63 F)) B0 post := by
  have w9 := (hV.2.2.1 x hx).2.2.2.2.2.2.2.1
  intro n
  induction n with
  | zero =>
    intro i F f hq hF hT
    have e : i = gW P x := by omega
    subst e
    refine g_X9_moves_107 hM hV hRw hx hF ?_
    refine ⟨?_, ?_, ⟨fun q => ?_, fun q => ?_⟩⟩
    all_goals first | omega | exact K F f hF (MV_MSt hd hT) | (exfalso; omega)
  | succ n ih =>
    intro i F f hq hF hT
    refine g_X9_moves_107 hM hV hRw hx hF ?_
    refine ⟨?_, ?_, ⟨fun q => ?_, fun q => ?_⟩⟩
    all_goals first | omega | (exfalso; omega) | exact mv_119 hM hV hRw hx hd ht (by omega) (fun F f h1 h2 => ih _ F f (by omega) h1 h2) (gW P x) 0 F f (by omega) hF hT
set_option maxHeartbeats 4000000 in
theorem mv_92 {G : GG} {j nw nx gn : Nat} {g : Nat → Sh} {c : Nat → Nat → Int} {post : Option AV → AM → Prop} {P : GD} {x k l : Nat} {d : Nat → Nat} (hM : ML c P) (hV : GV P) (hRw : RWS P x c) (hx : x < gN P) (hd : DP P x k d) (hl : l < gW P x) (K : ∀ F : Nat → Int, post (some (vi ((d l : Nat) : Int))) (S nw nx g, 78 + gn, wr c 63 F)) : ∀ (n t : Nat) (F : Nat → Int) (f : Nat → Nat), t + n = d l → RX P x F f → MSt P x d t f → SW G (j + 17) mX9_moves 92 [some (vr (49)), some (vi (((x : Nat) : Int))), some (vi (((k : Nat) : Int))), some (vi (((l : Nat) : Int))), some (vi (((t : Nat) : Int))), none, none] [] (S nw nx g, 78 + gn, (wr c 63 F)) B0 post := by
  have w9 := (hV.2.2.1 x hx).2.2.2.2.2.2.2.1
  have dl := hd.2.2.2.2 l hl
  intro n
  induction n with
  | zero =>
    intro t F f hq hF hT
    have e : f l = d l := (hT l hl).1 (by omega)
    have K2 := K F
    rw [← e] at K2
    refine g_X9_moves_92 hM hV hRw hx hF ?_
    refine ⟨?_, ⟨?_, ⟨fun q => ⟨?_, ?_⟩, fun q => ?_⟩⟩⟩
    all_goals first | omega | assumption | exact K2 | (exfalso; omega)
  | succ n ih =>
    intro t F f hq hF hT
    have e : f l = 1000000 := (hT l hl).2 (by omega)
    refine g_X9_moves_92 hM hV hRw hx hF ?_
    refine ⟨?_, ⟨?_, ⟨fun q => ⟨?_, ?_⟩, fun q => ?_⟩⟩⟩
    all_goals first | omega | assumption | (exfalso; omega) | exact mv_107 hM hV hRw hx hd (by omega) (fun F f h1 h2 => ih _ F f (by omega) h1 h2) (gW P x) 0 F f (by omega) hF (MSt_MV hT)
def iZk (k : Nat) : Nat → Nat → (Nat → Int) → Nat → Int
  | 0, _, F => F
  | n + 1, x, F => iZk k n (x + 1) (u1 F x (if x = k then 0 else 1000000))
theorem iZk_at {k : Nat} : ∀ n x F y, iZk k n x F y = if x ≤ y ∧ y < x + n then (if y = k then 0 else 1000000) else F y := by
  intro n
  induction n with
  | zero => intro x F y; rw [iZk, if_neg (by omega)]
  | succ n ih =>
    intro x F y
    rw [iZk, ih]
    by_cases h : x + 1 ≤ y ∧ y < x + 1 + n
    · rw [if_pos h, if_pos (show x ≤ y ∧ y < x + (n + 1) by omega)]
    · rw [if_neg h]
      by_cases e : y = x
      · subst e; rw [u1_eq, if_pos (show y ≤ y ∧ y < y + (n + 1) by omega)]
      · rw [u1_ne e, if_neg (by omega)]
set_option maxHeartbeats 4000000 in
theorem mv_54 {G : GG} {j nw nx gn : Nat} {g : Nat → Sh} {c : Nat → Nat → Int} {post : Option AV → AM → Prop} {P : GD} {x k l : Nat} (hM : ML c P) (hV : GV P) (hRw : RWS P x c) (hx : x < gN P) (hk : k < gW P x) : ∀ (n t : Nat) (F : Nat → Int), t + n = gW P x → SW G (j + 17) mX9_moves 92 [some (vr (49)), some (vi (((x : Nat) : Int))), some (vi (((k : Nat) : Int))), some (vi (((l : Nat) : Int))), some (vi (0)), none, none] [] (S nw nx g, 78 + gn, (wr c 63 (iZk k n t F))) B0 post → SW G (j + 17) mX9_moves 54 [some (vr (49)), some (vi (((x : Nat) : Int))), some (vi (((k : Nat) : Int))), some (vi (((l : Nat) : Int))), some (vi (((t : Nat) : Int))), none, none] [] (S nw nx g, 78 + gn, (wr c 63 F)) B0 post := by
  have w9 := (hV.2.2.1 x hx).2.2.2.2.2.2.2.1
  intro n
  induction n with
  | zero =>
    intro t F ht K
    rw [iZk] at K
    refine g_X9_moves_54 hM hV hRw hx ?_
    refine ⟨?_, ?_, ⟨fun q => ?_, fun q => ⟨?_, ?_, ⟨fun q => ⟨?_, ?_⟩, fun q => ⟨?_, ?_⟩⟩⟩⟩⟩
    all_goals first | omega | exact K | (exfalso; omega)
  | succ n ih =>
    intro t F ht K
    rw [iZk] at K
    refine g_X9_moves_54 hM hV hRw hx ?_
    refine ⟨?_, ?_, ⟨fun q => ?_, fun q => ⟨?_, ?_, ⟨fun q => ⟨?_, ?_⟩, fun q => ⟨?_, ?_⟩⟩⟩⟩⟩
    all_goals first | omega | (exfalso; omega) | (rw [if_pos (by assumption)] at K; exact ih _ _ (by omega) K) | (rw [if_neg (by assumption)] at K; exact ih _ _ (by omega) K)
theorem MSt_0 {P : GD} {x k : Nat} {d : Nat → Nat} (hd : DP P x k d) : MSt P x d 0 (fun v => if v = k then 0 else 1000000) := by
  intro v hv
  refine ⟨fun h => ?_, fun h => ?_⟩
  · show (if _ then _ else _) = _
    rw [if_pos (hd.2.1 v hv (by omega))]; omega
  · show (if _ then _ else _) = _
    rw [if_neg (fun e => by rw [e, hd.1] at h; omega)]
theorem RX_0 {P : GD} {x k : Nat} {F : Nat → Int} : RX P x (iZk k (gW P x) 0 F) (fun v => if v = k then 0 else 1000000) := by
  intro y hy
  rw [iZk_at, if_pos (by omega)]
  show _ = (((if _ then _ else _) : Nat) : Int)
  split <;> rfl
theorem mv_run {G : GG} {j nw nx gn : Nat} {g : Nat → Sh} {c : Nat → Nat → Int} {post : Option AV → AM → Prop} {P : GD} {x k l : Nat} (hM : ML c P) (hV : GV P) (hRw : RWS P x c) (hx : x < gN P) (hm : hMv P) (hk : k < gW P x) (hl : l < gW P x) (F : Nat → Int) (K : ∀ F : Nat → Int, post (some (vi ((dMv P x k l : Nat) : Int))) (S nw nx g, 78 + gn, wr c 63 F)) : SW G (j + 17) mX9_moves 54 [some (vr (49)), some (vi (((x : Nat) : Int))), some (vi (((k : Nat) : Int))), some (vi (((l : Nat) : Int))), some (vi (0)), none, none] [] (S nw nx g, 78 + gn, (wr c 63 F)) B0 post :=
  mv_54 hM hV hRw hx hk (gW P x) 0 F (by omega) (mv_92 hM hV hRw hx (dMv_ok hm hx hk) hl K (dMv P x k l) 0 _ _ (by omega) RX_0 (MSt_0 (dMv_ok hm hx hk)))

