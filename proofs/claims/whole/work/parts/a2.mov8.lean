def rwN (P : GD) (x : Nat) : Nat → Nat := fun v => rowF P (gL P x) x v 0
/-- the rows are listed, and all are far -/
def L5 (P : GD) (x : Nat) (c d : Nat → Nat → Int) : Prop := (∀ a, a < 11 ∨ 14 < a → d a = c a) ∧ d 11 3 = ((gW P x : Nat) : Int) ∧ d 11 4 = ((gL P x : Nat) : Int) ∧ (∀ v, v < gW P x → d 12 v = ((rwN P x v : Nat) : Int)) ∧ ∀ v, v < gW P x → d 13 v = -1
set_option maxHeartbeats 2000000 in
set_option maxRecDepth 20000 in
theorem g_X5_list_29 {G : GG} {j nw nx gn : Nat} {g : Nat → Sh} {c : Nat → Nat → Int} {post : Option AV → AM → Prop} {e : Nat} {x : Nat} (he : e = 21 ∨ e = 35) {P : GD} {k : Nat} {R : Nat → Int} {F : Nat → Int} (hE : EL c e P) (hV : GV P) (hL : hLn P) (hMn : c 11 3 = ((gW P x : Nat) : Int))  (hv : (k < 2147483648) ∧ (gW P x < 2147483648) ∧ (((gW P x ≤ k) → post none (S nw nx g, 78 + gn, (wr (wr c 12 R) 13 F))) ∧ ((¬ (gW P x ≤ k)) → (x < gN P) ∧ (k < 2147483648) ∧ (0 < gR P) ∧ ((k < 240) ∧ ((k < 240) ∧ (SW G (j + 3) mX5_list 29 [some (vr (11)), some (vr (e)), some (vi (((x : Nat) : Int))), some (vi (((k + 1 : Nat) : Int)))] [] (S nw nx g, 78 + gn, (wr (wr c 12 (u1 R k ((rowF P (gL P x) x k 0 : Nat) : Int))) 13 (u1 F k (-1)))) B0 post)))))) :
    SW G (j + 3) mX5_list 29 [some (vr (11)), some (vr (e)), some (vi (((x : Nat) : Int))), some (vi (((k : Nat) : Int)))] [] (S nw nx g, 78 + gn, (wr (wr c 12 R) 13 F)) B0 post := by
  refine sw_iload_n (dX5_list.at 17 rfl) rfl rfl ?_
  refine sw_aload_n (dX5_list.at 18 rfl) rfl rfl ?_
  refine sw_getIE (w := ((gW P x : Nat) : Int)) (dX5_list.at 19 rfl) fp_X5_26 (S_lt 11 (by decide)) (S_11 nw nx g) rfl ((wr_off (c := (wr c 12 R)) (a := 13) (f := F) (i := 11) (k := 3) (by decide)).trans ((wr_off (c := c) (a := 12) (f := R) (i := 11) (k := 3) (by decide)).trans hMn)) ?_
  refine sw_icmpN_ge k (gW P x) (tgt := 62) (dX5_list.at 20 rfl) (by decide) hv.1 hv.2.1 (fun q => ?_) (fun q => ?_)
  · replace hv := hv.2.2.1 q
    exact sw_vret (dX5_list.at 36 rfl) rfl (Nat.le_refl _) (Nat.le_refl _) hv
  · replace hv := hv.2.2.2 q
    refine sw_aload_n (dX5_list.at 21 rfl) rfl rfl ?_
    refine sw_getR (dX5_list.at 22 rfl) fp_X5_9 (S_lt 11 (by decide)) (S_11 nw nx g) rfl rfl ?_
    refine sw_iload_n (dX5_list.at 23 rfl) rfl rfl ?_
    refine sw_aload_n (dX5_list.at 24 rfl) rfl rfl ?_
    refine sw_iload_n (dX5_list.at 25 rfl) rfl rfl ?_
    refine sw_iload_n (dX5_list.at 26 rfl) rfl rfl ?_
    refine sw_callV (B' := B0) (As := [vi (((x : Nat) : Int)), vi (((k : Nat) : Int))]) (mc := 0) (ms := 0) (dX5_list.at 27 rfl) lk_X5_51 (S_e_lt he) (S_e he) rfl rfl (Nat.le_of_ble_eq_true rfl) rfl (Nat.le_refl _) (Nat.le_refl _) ?_
    refine c_X1_row (e := e) (x0 := x) (k0 := k) (j := j + 0) he (EL_wr (a := 13) (f := F) (EL_wr (a := 12) (f := R) hE he (by decide)) he (by decide)) hV hL hv.1 hv.2.1 hv.2.2.1 ?_
    replace hv := hv.2.2.2
    refine sw_lastN k (dX5_list.at 28 rfl) (S_lt 12 (by decide)) (S_12 nw nx g) (by decide) hv.1 ?_
    refine SW.cg (M' := (S nw nx g, 78 + gn, (wr (wr c 12 (u1 R k ((rowF P (gL P x) x k 0 : Nat) : Int))) 13 F))) (congrArg (fun m => (S nw nx g, 78 + gn, m)) ((wr_up_in (wr c 12 R) 13 F 12 k ((rowF P (gL P x) x k 0 : Nat) : Int) (by decide)).trans (congrArg (fun m => wr m 13 F) (wr_up c 12 R k ((rowF P (gL P x) x k 0 : Nat) : Int))))) ?_
    replace hv := hv.2
    refine sw_aload_n (dX5_list.at 29 rfl) rfl rfl ?_
    refine sw_getR (dX5_list.at 30 rfl) fp_X5_15 (S_lt 11 (by decide)) (S_11 nw nx g) rfl rfl ?_
    refine sw_iload_n (dX5_list.at 31 rfl) rfl rfl ?_
    refine sw_iconst (dX5_list.at 32 rfl) ?_
    refine sw_iastN k (dX5_list.at 33 rfl) (S_lt 13 (by decide)) (S_13 nw nx g) (by decide) hv.1 ?_
    refine SW.cg (M' := (S nw nx g, 78 + gn, (wr (wr c 12 (u1 R k ((rowF P (gL P x) x k 0 : Nat) : Int))) 13 (u1 F k (-1))))) (congrArg (fun m => (S nw nx g, 78 + gn, m)) (wr_up (wr c 12 (u1 R k ((rowF P (gL P x) x k 0 : Nat) : Int))) 13 F k (-1))) ?_
    replace hv := hv.2
    refine sw_iinc (lo' := [some (vr (11)), some (vr (e)), some (vi (((x : Nat) : Int))), some (vi (((k + 1 : Nat) : Int)))]) (dX5_list.at 34 rfl) rfl (by decide) rfl ?_
    refine sw_goto (tgt := 29) (dX5_list.at 35 rfl) (by decide) ?_
    exact hv

set_option maxHeartbeats 2000000 in
set_option maxRecDepth 20000 in
theorem g_X5_list_0 {G : GG} {j nw nx gn : Nat} {g : Nat → Sh} {c : Nat → Nat → Int} {post : Option AV → AM → Prop} {e : Nat} {x : Nat} (he : e = 21 ∨ e = 35) {P : GD} (hE : EL c e P) (hV : GV P)  (hv : (x < gN P) ∧ ((gW P x < 9223372036854775808) ∧ ((x < gN P) ∧ (SW G (j + 3) mX5_list 29 [some (vr (11)), some (vr (e)), some (vi (((x : Nat) : Int))), some (vi (0))] [] (S nw nx g, 78 + gn, (up2 (up2 c 11 3 (((min (gW P x) 240) : Nat) : Int)) 11 4 ((gL P x : Nat) : Int))) B0 post)))) :
    SW G (j + 3) mX5_list 0 [some (vr (11)), some (vr (e)), some (vi (((x : Nat) : Int))), none] [] (S nw nx g, 78 + gn, c) B0 post := by
  refine sw_aload_n (dX5_list.at 0 rfl) rfl rfl ?_
  refine sw_aload_n (dX5_list.at 1 rfl) rfl rfl ?_
  refine sw_getR (dX5_list.at 2 rfl) fp_X5_34 (S_e_lt he) (S_e he) rfl rfl ?_
  refine sw_iload_n (dX5_list.at 3 rfl) rfl rfl ?_
  refine sw_laldN x (w := ((gW P x : Nat) : Int)) (dX5_list.at 4 rfl) (S_ek_lt he (by decide)) (S_e_12 he) (by decide) (GV_lt hV hv.1) (EL_W hE hv.1) ?_
  replace hv := hv.2
  refine sw_ldc2 (z := 240) (dX5_list.at 5 rfl) kc_X5_37 (by decide) ?_
  refine sw_lmin (dX5_list.at 6 rfl) lk_X5_39 (Nat.le_of_ble_eq_true rfl) (Nat.le_refl _) (Nat.le_refl _) (nrngL hv.1) (by decide) ?_
  refine sw_topL (y := (((min (gW P x) 240) : Nat) : Int)) (congrArg _ (min_if _ _)) ?_
  replace hv := hv.2
  refine sw_l2i (dX5_list.at 7 rfl) ?_
  refine sw_putI (dX5_list.at 8 rfl) fp_X5_26 (S_lt 11 (by decide)) (S_11 nw nx g) rfl ?_
  refine sw_aload_n (dX5_list.at 9 rfl) rfl rfl ?_
  refine sw_aload_n (dX5_list.at 10 rfl) rfl rfl ?_
  refine sw_getR (dX5_list.at 11 rfl) fp_X5_45 (S_e_lt he) (S_e he) rfl rfl ?_
  refine sw_iload_n (dX5_list.at 12 rfl) rfl rfl ?_
  refine sw_ialdN x (w := ((gL P x : Nat) : Int)) (dX5_list.at 13 rfl) (S_ek_lt he (by decide)) (S_e_2 he) (by decide) (GV_lt hV hv.1) (EL_L (EL_up hE he (by decide)) hv.1) ?_
  replace hv := hv.2
  refine sw_putI (dX5_list.at 14 rfl) fp_X5_48 (S_lt 11 (by decide)) (S_11 nw nx g) rfl ?_
  refine sw_iconst (dX5_list.at 15 rfl) ?_
  refine sw_istore_n (lo' := [some (vr (11)), some (vr (e)), some (vi (((x : Nat) : Int))), some (vi (0))]) (dX5_list.at 16 rfl) rfl (by decide) rfl ?_
  exact hv

set_option maxHeartbeats 4000000 in
theorem lp_X5_list {G : GG} {j nw nx gn : Nat} {g : Nat → Sh} {c : Nat → Nat → Int} {post : Option AV → AM → Prop} {P : GD} {e x : Nat} (he : e = 21 ∨ e = 35) (hE : EL c e P) (hV : GV P) (hL : hLn P) (hMn : c 11 3 = ((gW P x : Nat) : Int)) (hx : x < gN P) (K : ∀ R F : Nat → Int, (∀ v, v < gW P x → R v = ((rwN P x v : Nat) : Int)) → (∀ v, v < gW P x → F v = -1) → post none (S nw nx g, 78 + gn, (wr (wr c 12 R) 13 F))) : ∀ (f k : Nat) (R F : Nat → Int), k + f = gW P x → (∀ v, v < k → R v = ((rwN P x v : Nat) : Int)) → (∀ v, v < k → F v = -1) → SW G (j + 3) mX5_list 29 [some (vr (11)), some (vr (e)), some (vi (((x : Nat) : Int))), some (vi (((k : Nat) : Int)))] [] (S nw nx g, 78 + gn, (wr (wr c 12 R) 13 F)) B0 post := by
  have w9 := (hV.2.2.1 x hx).2.2.2.2.2.2.2.1
  have hR0 : 0 < gR P := by have := hV.1.2.2.2; omega
  intro f
  induction f with
  | zero =>
    intro k R F hk h1 h2
    refine g_X5_list_29 he hE hV hL hMn ?_
    refine ⟨?_, ?_, ⟨fun q => ?_, fun q => ⟨?_, ?_, ?_, ⟨?_, ⟨?_, ?_⟩⟩⟩⟩⟩
    all_goals first | omega | exact K R F (fun v hv => h1 v (by omega)) (fun v hv => h2 v (by omega)) | (exfalso; omega)
  | succ f ih =>
    intro k R F hk h1 h2
    have hn := ih (k + 1) (u1 R k ((rowF P (gL P x) x k 0 : Nat) : Int)) (u1 F k (-1)) (by omega) (fun v hv => by
      by_cases q : v = k
      · rw [q, u1_eq]; rfl
      · rw [u1_ne q]; exact h1 v (by omega)) (fun v hv => by
      by_cases q : v = k
      · rw [q, u1_eq]
      · rw [u1_ne q]; exact h2 v (by omega))
    refine g_X5_list_29 he hE hV hL hMn ?_
    refine ⟨?_, ?_, ⟨fun q => ?_, fun q => ⟨?_, ?_, ?_, ⟨?_, ⟨?_, ?_⟩⟩⟩⟩⟩
    all_goals first | omega | assumption | (exfalso; omega) | exact hn

set_option maxHeartbeats 2000000 in
theorem c_X5_list {G : GG} {j nw nx gn : Nat} {g : Nat → Sh} {c : Nat → Nat → Int} {post : Option AV → AM → Prop} {P : GD} {e : Nat} {x : Nat} (he : e = 21 ∨ e = 35) (hE : EL c e P) (hV : GV P) (hL : hLn P) (p1 : x < gN P) (K : ∀ c2 : Nat → Nat → Int, L5 P x c c2 → post none (S nw nx g, 78 + gn, c2)) : SM G (j + 4) mX5_list [vr (11), vr (e), vi (((x : Nat) : Int))] (S nw nx g, 78 + gn, c) 0 0 post := by
  refine sm_of wX5_list rfl (Nat.le_of_ble_eq_true rfl) ?_
  have w9 := (hV.2.2.1 x p1).2.2.2.2.2.2.2.1
  have e1 : min (gW P x) 240 = gW P x := by omega
  have hs := lp_X5_list (G := G) (j := j) (nw := nw) (nx := nx) (gn := gn) (g := g) (c := up2 (up2 c 11 3 ((gW P x : Nat) : Int)) 11 4 ((gL P x : Nat) : Int)) (post := post) he (EL_up (EL_up hE he (by decide)) he (by decide)) hV hL (by rw [up2_ne (Or.inr (by decide)), up2_eq]) p1 (fun R F h1 h2 => K _ ⟨fun a ha => by
      rw [wr_offR (by omega), wr_offR (by omega), up2_off (by omega), up2_off (by omega)], by
      rw [wr_off (by decide), wr_off (by decide), up2_ne (Or.inr (by decide)), up2_eq], by
      rw [wr_off (by decide), wr_off (by decide), up2_eq], fun v hv => by
      rw [wr_off (by decide), wr_at]; exact h1 v hv, fun v hv => by
      rw [wr_at]; exact h2 v hv⟩) (gW P x) 0 (up2 (up2 c 11 3 ((gW P x : Nat) : Int)) 11 4 ((gL P x : Nat) : Int) 12) (up2 (up2 c 11 3 ((gW P x : Nat) : Int)) 11 4 ((gL P x : Nat) : Int) 13) (by omega) (fun v hv => by omega) (fun v hv => by omega)
  rw [wr_self, wr_self] at hs
  refine g_X5_list_0 he hE hV ?_
  rw [e1]
  refine ⟨?_, ⟨?_, ⟨?_, ?_⟩⟩⟩
  all_goals first | omega | assumption | exact hs

set_option maxHeartbeats 2000000 in
set_option maxRecDepth 20000 in
theorem g_X5_spread_6 {G : GG} {j nw nx gn : Nat} {g : Nat → Sh} {c : Nat → Nat → Int} {post : Option AV → AM → Prop} {e : Nat} {u : Nat} {kn : Nat} (he : e = 21 ∨ e = 35) {P : GD} {z : Nat} {M : Nat} {rh : Nat → Nat} {a : Nat} {p : Nat} {F : Nat → Int} {Q : Nat → Int} (hE : EL c e P) (hV : GV P) (hSz : c 11 4 = ((z : Nat) : Int)) (hz : z ≤ 13) (hMn : c 11 3 = ((M : Nat) : Int)) (hM2 : 0 < M ∧ M ≤ 240) (hR5 : ∀ k, k < M → c 12 k = ((rh k : Nat) : Int)) (hRb : ∀ k, k < M → rh k < 2 ^ 40)  (hv : (p + 1 < 2147483648) ∧ (z < 2147483648) ∧ (((z ≤ p + 1) → post (some (vi (((a : Nat) : Int)))) (S nw nx g, 78 + gn, (wr (wr c 13 F) 14 Q))) ∧ ((¬ (z ≤ p + 1)) → (u < M) ∧ (((rh u) < 8 ^ z) ∧ (p + 1 < z) ∧ (dg (rh u) z p < gR P) ∧ (dg (rh u) z (p + 1) < gR P) ∧ ((u < M) ∧ ((mvd P (rh u) z p < 9223372036854775808) ∧ (rh u < 9223372036854775808) ∧ (((mvd P (rh u) z p ≠ rh u) → (∀ k l, k < l → l < M → rh k < rh l) ∧ ((mvd P (rh u) z p) < 2 ^ 62) ∧ (SW G (j + 2) mX5_spread 56 [some (vr (11)), some (vr (e)), some (vi (((u : Nat) : Int))), some (vi (((kn : Nat) : Int))), some (vi (((a : Nat) : Int))), some (vi (((p : Nat) : Int))), none, none, some (vi (fdF rh (mvd P (rh u) z p) M))] [] (S nw nx g, 78 + gn, (wr (wr c 13 F) 14 Q)) B0 post)) ∧ ((mvd P (rh u) z p = rh u) → SW G (j + 2) mX5_spread 56 [some (vr (11)), some (vr (e)), some (vi (((u : Nat) : Int))), some (vi (((kn : Nat) : Int))), some (vi (((a : Nat) : Int))), some (vi (((p : Nat) : Int))), none, none, some (vi ((-1)))] [] (S nw nx g, 78 + gn, (wr (wr c 13 F) 14 Q)) B0 post)))))))) :
    SW G (j + 2) mX5_spread 6 [some (vr (11)), some (vr (e)), some (vi (((u : Nat) : Int))), some (vi (((kn : Nat) : Int))), some (vi (((a : Nat) : Int))), some (vi (((p : Nat) : Int))), none, none, none] [] (S nw nx g, 78 + gn, (wr (wr c 13 F) 14 Q)) B0 post := by
  refine sw_iload (dX5_spread_0.at 4 rfl) rfl ?_
  refine sw_iconst (dX5_spread_0.at 5 rfl) ?_
  refine sw_iadd (dX5_spread_0.at 6 rfl) ?_
  refine sw_topI (y := ((p + 1 : Nat) : Int)) (by first | rfl | (congr 1)) ?_
  refine sw_aload_n (dX5_spread_0.at 7 rfl) rfl rfl ?_
  refine sw_getIE (w := ((z : Nat) : Int)) (dX5_spread_0.at 8 rfl) fp_X5_48 (S_lt 11 (by decide)) (S_11 nw nx g) rfl ((wr_off (c := (wr c 13 F)) (a := 14) (f := Q) (i := 11) (k := 4) (by decide)).trans ((wr_off (c := c) (a := 13) (f := F) (i := 11) (k := 4) (by decide)).trans hSz)) ?_
  refine sw_icmpN_ge (p + 1) z (tgt := 114) (dX5_spread_0.at 9 rfl) (by decide) hv.1 hv.2.1 (fun q => ?_) (fun q => ?_)
  · replace hv := hv.2.2.1 q
    refine sw_iload (dX5_spread_1.at 12 rfl) rfl ?_
    exact sw_iret (dX5_spread_1.at 13 rfl) rfl (Nat.le_refl _) (Nat.le_refl _) hv
  · replace hv := hv.2.2.2 q
    refine sw_aload_n (dX5_spread_0.at 10 rfl) rfl rfl ?_
    refine sw_aload_n (dX5_spread_0.at 11 rfl) rfl rfl ?_
    refine sw_aload_n (dX5_spread_0.at 12 rfl) rfl rfl ?_
    refine sw_getR (dX5_spread_0.at 13 rfl) fp_X5_9 (S_lt 11 (by decide)) (S_11 nw nx g) rfl rfl ?_
    refine sw_iload_n (dX5_spread_0.at 14 rfl) rfl rfl ?_
    refine sw_laldN u (w := ((rh u : Nat) : Int)) (dX5_spread_0.at 15 rfl) (S_lt 12 (by decide)) (S_12 nw nx g) (by decide) (Nat.lt_of_lt_of_le hv.1 hM2.2) (hR5 _ hv.1) ?_
    replace hv := hv.2
    refine sw_iload (dX5_spread_0.at 16 rfl) rfl ?_
    refine sw_callV (B' := B0) (As := [vr (e), vl (((rh u : Nat) : Int)), vi (((p : Nat) : Int))]) (mc := 0) (ms := 0) (dX5_spread_0.at 17 rfl) lk_X5_55 (S_lt 11 (by decide)) (S_11 nw nx g) rfl rfl (Nat.le_of_ble_eq_true rfl) rfl (Nat.le_refl _) (Nat.le_refl _) ?_
    refine c_X5_moved (e := e) (r := (rh u)) (i := p) (j := j + 0) he (EL_wr (a := 14) (f := Q) (EL_wr (a := 13) (f := F) hE he (by decide)) he (by decide)) hV ((wr_off (by decide)).trans ((wr_off (by decide)).trans hSz)) hz hv.1 hv.2.1 hv.2.2.1 hv.2.2.2.1 ?_
    replace hv := hv.2.2.2.2
    refine sw_lstore (lo' := [some (vr (11)), some (vr (e)), some (vi (((u : Nat) : Int))), some (vi (((kn : Nat) : Int))), some (vi (((a : Nat) : Int))), some (vi (((p : Nat) : Int))), some (vl (((mvd P (rh u) z p : Nat) : Int))), none, none]) (dX5_spread_0.at 18 rfl) (by decide) rfl ?_
    refine sw_lload (dX5_spread_0.at 19 rfl) rfl ?_
    refine sw_aload_n (dX5_spread_0.at 20 rfl) rfl rfl ?_
    refine sw_getR (dX5_spread_0.at 21 rfl) fp_X5_9 (S_lt 11 (by decide)) (S_11 nw nx g) rfl rfl ?_
    refine sw_iload_n (dX5_spread_0.at 22 rfl) rfl rfl ?_
    refine sw_laldN u (w := ((rh u : Nat) : Int)) (dX5_spread_0.at 23 rfl) (S_lt 12 (by decide)) (S_12 nw nx g) (by decide) (Nat.lt_of_lt_of_le hv.1 hM2.2) (hR5 _ hv.1) ?_
    replace hv := hv.2
    refine sw_lcmpN_ne (mvd P (rh u) z p) (rh u) (tgt := 48) (dX5_spread_0.at 24 rfl) (dX5_spread_0.at 25 rfl) (by decide) hv.1 hv.2.1 (fun q => ?_) (fun q => ?_)
    · replace hv := hv.2.2.1 q
      refine sw_aload_n (dX5_spread_0.at 28 rfl) rfl rfl ?_
      refine sw_lload (dX5_spread_0.at 29 rfl) rfl ?_
      refine sw_callV (B' := B0) (As := [vl (((mvd P (rh u) z p : Nat) : Int))]) (mc := 0) (ms := 0) (dX5_spread_0.at 30 rfl) lk_X5_59 (S_lt 11 (by decide)) (S_11 nw nx g) rfl rfl (Nat.le_of_ble_eq_true rfl) rfl (Nat.le_refl _) (Nat.le_refl _) ?_
      refine c_X5_find (r := (mvd P (rh u) z p)) (j := j + 1) ((wr_off (by decide)).trans ((wr_off (by decide)).trans hMn)) hM2 (fun v hv => ((wr_off (by decide)).trans ((wr_off (by decide)).trans (hR5 v hv)))) hRb hv.1 hv.2.1 ?_
      replace hv := hv.2.2
      refine sw_istore (lo' := [some (vr (11)), some (vr (e)), some (vi (((u : Nat) : Int))), some (vi (((kn : Nat) : Int))), some (vi (((a : Nat) : Int))), some (vi (((p : Nat) : Int))), some (vl (((mvd P (rh u) z p : Nat) : Int))), none, some (vi (fdF rh (mvd P (rh u) z p) M))]) (dX5_spread_0.at 31 rfl) (by decide) rfl ?_
      exact sw_mask (bs := [true, true, true, true, true, true, false, false, true]) hv
    · replace hv := hv.2.2.2 q
      refine sw_iconst (dX5_spread_0.at 26 rfl) ?_
      refine sw_goto (tgt := 54) (dX5_spread_0.at 27 rfl) (by decide) ?_
      refine sw_istore (lo' := [some (vr (11)), some (vr (e)), some (vi (((u : Nat) : Int))), some (vi (((kn : Nat) : Int))), some (vi (((a : Nat) : Int))), some (vi (((p : Nat) : Int))), some (vl (((mvd P (rh u) z p : Nat) : Int))), none, some (vi ((-1)))]) (dX5_spread_0.at 31 rfl) (by decide) rfl ?_
      exact sw_mask (bs := [true, true, true, true, true, true, false, false, true]) hv

set_option maxHeartbeats 2000000 in
set_option maxRecDepth 20000 in
theorem g_X5_spread_56n {G : GG} {j nw nx gn : Nat} {g : Nat → Sh} {c : Nat → Nat → Int} {post : Option AV → AM → Prop} {e : Nat} {u : Nat} {kn : Nat} (he : e = 21 ∨ e = 35) {P : GD} {z : Nat} {M : Nat} {rh : Nat → Nat} {a : Nat} {p : Nat} {F : Nat → Int} {Q : Nat → Int} {y : Nat} (hE : EL c e P) (hV : GV P) (hSz : c 11 4 = ((z : Nat) : Int)) (hz : z ≤ 13) (hMn : c 11 3 = ((M : Nat) : Int)) (hM2 : 0 < M ∧ M ≤ 240) (hR5 : ∀ k, k < M → c 12 k = ((rh k : Nat) : Int)) (hRb : ∀ k, k < M → rh k < 2 ^ 40)  (hv : (y < 2147483648) ∧ (((((y : Nat) : Int) = (-1)) → SW G (j + 2) mX5_spread 6 [some (vr (11)), some (vr (e)), some (vi (((u : Nat) : Int))), some (vi (((kn : Nat) : Int))), some (vi (((a : Nat) : Int))), some (vi (((p + 1 : Nat) : Int))), none, none, none] [] (S nw nx g, 78 + gn, (wr (wr c 13 F) 14 Q)) B0 post) ∧ ((¬ (((y : Nat) : Int) = (-1))) → (y < M) ∧ ((-2147483648 ≤ F y ∧ F y < 2147483648) ∧ (((F y ≠ (-1)) → SW G (j + 2) mX5_spread 6 [some (vr (11)), some (vr (e)), some (vi (((u : Nat) : Int))), some (vi (((kn : Nat) : Int))), some (vi (((a : Nat) : Int))), some (vi (((p + 1 : Nat) : Int))), none, none, none] [] (S nw nx g, 78 + gn, (wr (wr c 13 F) 14 Q)) B0 post) ∧ ((F y = (-1)) → (a < 2147483648) ∧ (((240 ≤ a) → SW G (j + 2) mX5_spread 6 [some (vr (11)), some (vr (e)), some (vi (((u : Nat) : Int))), some (vi (((kn : Nat) : Int))), some (vi (((a : Nat) : Int))), some (vi (((p + 1 : Nat) : Int))), none, none, none] [] (S nw nx g, 78 + gn, (wr (wr c 13 F) 14 Q)) B0 post) ∧ ((¬ (240 ≤ a)) → (u < M) ∧ ((y < 240) ∧ ((a < 240) ∧ (SW G (j + 2) mX5_spread 6 [some (vr (11)), some (vr (e)), some (vi (((u : Nat) : Int))), some (vi (((kn : Nat) : Int))), some (vi (((a + 1 : Nat) : Int))), some (vi (((p + 1 : Nat) : Int))), none, none, none] [] (S nw nx g, 78 + gn, (wr (wr c 13 (u1 F y ((F u) + 1))) 14 (u1 Q a ((y : Nat) : Int)))) B0 post))))))))))) :
    SW G (j + 2) mX5_spread 56 [some (vr (11)), some (vr (e)), some (vi (((u : Nat) : Int))), some (vi (((kn : Nat) : Int))), some (vi (((a : Nat) : Int))), some (vi (((p : Nat) : Int))), none, none, some (vi (((y : Nat) : Int)))] [] (S nw nx g, 78 + gn, (wr (wr c 13 F) 14 Q)) B0 post := by
  refine sw_iload (dX5_spread_0.at 32 rfl) rfl ?_
  refine sw_iconst (dX5_spread_0.at 33 rfl) ?_
  refine sw_icmp_eq (tgt := 108) (dX5_spread_0.at 34 rfl) (by decide) (nrng hv.1) (by decide) (fun q => ?_) (fun q => ?_)
  · replace hv := hv.2.1 q
    refine sw_iinc (lo' := [some (vr (11)), some (vr (e)), some (vi (((u : Nat) : Int))), some (vi (((kn : Nat) : Int))), some (vi (((a : Nat) : Int))), some (vi (((p + 1 : Nat) : Int))), none, none, some (vi (((y : Nat) : Int)))]) (dX5_spread_1.at 10 rfl) rfl (by decide) rfl ?_
    refine sw_goto (tgt := 6) (dX5_spread_1.at 11 rfl) (by decide) ?_
    exact sw_mask (bs := [true, true, true, true, true, true, false, false, false]) hv
  · replace hv := hv.2.2 q
    refine sw_aload_n (dX5_spread_0.at 35 rfl) rfl rfl ?_
    refine sw_getR (dX5_spread_0.at 36 rfl) fp_X5_15 (S_lt 11 (by decide)) (S_11 nw nx g) rfl rfl ?_
    refine sw_iload (dX5_spread_0.at 37 rfl) rfl ?_
    refine sw_ialdN y (w := F y) (dX5_spread_0.at 38 rfl) (S_lt 13 (by decide)) (S_13 nw nx g) (by decide) (Nat.lt_of_lt_of_le hv.1 hM2.2) rfl ?_
    replace hv := hv.2
    refine sw_iconst (dX5_spread_0.at 39 rfl) ?_
    refine sw_icmp_ne (tgt := 108) (dX5_spread_0.at 40 rfl) (by decide) hv.1 (by decide) (fun q => ?_) (fun q => ?_)
    · replace hv := hv.2.1 q
      refine sw_iinc (lo' := [some (vr (11)), some (vr (e)), some (vi (((u : Nat) : Int))), some (vi (((kn : Nat) : Int))), some (vi (((a : Nat) : Int))), some (vi (((p + 1 : Nat) : Int))), none, none, some (vi (((y : Nat) : Int)))]) (dX5_spread_1.at 10 rfl) rfl (by decide) rfl ?_
      refine sw_goto (tgt := 6) (dX5_spread_1.at 11 rfl) (by decide) ?_
      exact sw_mask (bs := [true, true, true, true, true, true, false, false, false]) hv
    · replace hv := hv.2.2 q
      refine sw_iload (dX5_spread_0.at 41 rfl) rfl ?_
      refine sw_sipush (dX5_spread_0.at 42 rfl) (by decide) ?_
      refine sw_icmpN_ge a 240 (tgt := 108) (dX5_spread_0.at 43 rfl) (by decide) hv.1 (by decide) (fun q => ?_) (fun q => ?_)
      · replace hv := hv.2.1 q
        refine sw_iinc (lo' := [some (vr (11)), some (vr (e)), some (vi (((u : Nat) : Int))), some (vi (((kn : Nat) : Int))), some (vi (((a : Nat) : Int))), some (vi (((p + 1 : Nat) : Int))), none, none, some (vi (((y : Nat) : Int)))]) (dX5_spread_1.at 10 rfl) rfl (by decide) rfl ?_
        refine sw_goto (tgt := 6) (dX5_spread_1.at 11 rfl) (by decide) ?_
        exact sw_mask (bs := [true, true, true, true, true, true, false, false, false]) hv
      · replace hv := hv.2.2 q
        refine sw_aload_n (dX5_spread_0.at 44 rfl) rfl rfl ?_
        refine sw_getR (dX5_spread_0.at 45 rfl) fp_X5_15 (S_lt 11 (by decide)) (S_11 nw nx g) rfl rfl ?_
        refine sw_iload (dX5_spread_0.at 46 rfl) rfl ?_
        refine sw_aload_n (dX5_spread_0.at 47 rfl) rfl rfl ?_
        refine sw_getR (dX5_spread_0.at 48 rfl) fp_X5_15 (S_lt 11 (by decide)) (S_11 nw nx g) rfl rfl ?_
        refine sw_iload_n (dX5_spread_0.at 49 rfl) rfl rfl ?_
        refine sw_ialdN u (w := F u) (dX5_spread_1.at 0 rfl) (S_lt 13 (by decide)) (S_13 nw nx g) (by decide) (Nat.lt_of_lt_of_le hv.1 hM2.2) rfl ?_
        replace hv := hv.2
        refine sw_iconst (dX5_spread_1.at 1 rfl) ?_
        refine sw_iadd (dX5_spread_1.at 2 rfl) ?_
        refine sw_iastN y (dX5_spread_1.at 3 rfl) (S_lt 13 (by decide)) (S_13 nw nx g) (by decide) hv.1 ?_
        refine SW.cg (M' := (S nw nx g, 78 + gn, (wr (wr c 13 (u1 F y ((F u) + 1))) 14 Q))) (congrArg (fun m => (S nw nx g, 78 + gn, m)) ((wr_up_in (wr c 13 F) 14 Q 13 y ((F u) + 1) (by decide)).trans (congrArg (fun m => wr m 14 Q) (wr_up c 13 F y ((F u) + 1))))) ?_
        replace hv := hv.2
        refine sw_aload_n (dX5_spread_1.at 4 rfl) rfl rfl ?_
        refine sw_getR (dX5_spread_1.at 5 rfl) fp_X5_19 (S_lt 11 (by decide)) (S_11 nw nx g) rfl rfl ?_
        refine sw_iload (dX5_spread_1.at 6 rfl) rfl ?_
        refine sw_iload (dX5_spread_1.at 7 rfl) rfl ?_
        refine sw_iastN a (dX5_spread_1.at 8 rfl) (S_lt 14 (by decide)) (S_14 nw nx g) (by decide) hv.1 ?_
        refine SW.cg (M' := (S nw nx g, 78 + gn, (wr (wr c 13 (u1 F y ((F u) + 1))) 14 (u1 Q a ((y : Nat) : Int))))) (congrArg (fun m => (S nw nx g, 78 + gn, m)) (wr_up (wr c 13 (u1 F y ((F u) + 1))) 14 Q a ((y : Nat) : Int))) ?_
        replace hv := hv.2
        refine sw_iinc (lo' := [some (vr (11)), some (vr (e)), some (vi (((u : Nat) : Int))), some (vi (((kn : Nat) : Int))), some (vi (((a + 1 : Nat) : Int))), some (vi (((p : Nat) : Int))), none, none, some (vi (((y : Nat) : Int)))]) (dX5_spread_1.at 9 rfl) rfl (by decide) rfl ?_
        refine sw_iinc (lo' := [some (vr (11)), some (vr (e)), some (vi (((u : Nat) : Int))), some (vi (((kn : Nat) : Int))), some (vi (((a + 1 : Nat) : Int))), some (vi (((p + 1 : Nat) : Int))), none, none, some (vi (((y : Nat) : Int)))]) (dX5_spread_1.at 10 rfl) rfl (by decide) rfl ?_
        refine sw_goto (tgt := 6) (dX5_spread_1.at 11 rfl) (by decide) ?_
        exact sw_mask (bs := [true, true, true, true, true, true, false, false, false]) hv

set_option maxHeartbeats 2000000 in
set_option maxRecDepth 20000 in
theorem g_X5_spread_56e {G : GG} {j nw nx gn : Nat} {g : Nat → Sh} {c : Nat → Nat → Int} {post : Option AV → AM → Prop} {e : Nat} {u : Nat} {kn : Nat} (he : e = 21 ∨ e = 35) {P : GD} {z : Nat} {M : Nat} {rh : Nat → Nat} {a : Nat} {p : Nat} {F : Nat → Int} {Q : Nat → Int} (hE : EL c e P) (hV : GV P) (hSz : c 11 4 = ((z : Nat) : Int)) (hz : z ≤ 13) (hMn : c 11 3 = ((M : Nat) : Int)) (hM2 : 0 < M ∧ M ≤ 240) (hR5 : ∀ k, k < M → c 12 k = ((rh k : Nat) : Int)) (hRb : ∀ k, k < M → rh k < 2 ^ 40)  (hv : SW G (j + 2) mX5_spread 6 [some (vr (11)), some (vr (e)), some (vi (((u : Nat) : Int))), some (vi (((kn : Nat) : Int))), some (vi (((a : Nat) : Int))), some (vi (((p + 1 : Nat) : Int))), none, none, none] [] (S nw nx g, 78 + gn, (wr (wr c 13 F) 14 Q)) B0 post) :
    SW G (j + 2) mX5_spread 56 [some (vr (11)), some (vr (e)), some (vi (((u : Nat) : Int))), some (vi (((kn : Nat) : Int))), some (vi (((a : Nat) : Int))), some (vi (((p : Nat) : Int))), none, none, some (vi ((-1)))] [] (S nw nx g, 78 + gn, (wr (wr c 13 F) 14 Q)) B0 post := by
  refine sw_iload (dX5_spread_0.at 32 rfl) rfl ?_
  refine sw_iconst (dX5_spread_0.at 33 rfl) ?_
  refine sw_icmp_eq (tgt := 108) (dX5_spread_0.at 34 rfl) (by decide) (by decide) (by decide) (fun q => ?_) (fun q => ?_)
  · clear q
    refine sw_iinc (lo' := [some (vr (11)), some (vr (e)), some (vi (((u : Nat) : Int))), some (vi (((kn : Nat) : Int))), some (vi (((a : Nat) : Int))), some (vi (((p + 1 : Nat) : Int))), none, none, some (vi ((-1)))]) (dX5_spread_1.at 10 rfl) rfl (by decide) rfl ?_
    refine sw_goto (tgt := 6) (dX5_spread_1.at 11 rfl) (by decide) ?_
    exact sw_mask (bs := [true, true, true, true, true, true, false, false, false]) hv
  · exact absurd q (by decide)

set_option maxHeartbeats 2000000 in
set_option maxRecDepth 20000 in
theorem g_X5_spread_0 {G : GG} {j nw nx gn : Nat} {g : Nat → Sh} {c : Nat → Nat → Int} {post : Option AV → AM → Prop} {e : Nat} {u : Nat} {kn : Nat} (he : e = 21 ∨ e = 35) {F : Nat → Int} {Q : Nat → Int}  (hv : SW G (j + 2) mX5_spread 6 [some (vr (11)), some (vr (e)), some (vi (((u : Nat) : Int))), some (vi (((kn : Nat) : Int))), some (vi (((kn : Nat) : Int))), some (vi (0)), none, none, none] [] (S nw nx g, 78 + gn, (wr (wr c 13 F) 14 Q)) B0 post) :
    SW G (j + 2) mX5_spread 0 [some (vr (11)), some (vr (e)), some (vi (((u : Nat) : Int))), some (vi (((kn : Nat) : Int))), none, none, none, none, none] [] (S nw nx g, 78 + gn, (wr (wr c 13 F) 14 Q)) B0 post := by
  refine sw_iload_n (dX5_spread_0.at 0 rfl) rfl rfl ?_
  refine sw_istore (lo' := [some (vr (11)), some (vr (e)), some (vi (((u : Nat) : Int))), some (vi (((kn : Nat) : Int))), some (vi (((kn : Nat) : Int))), none, none, none, none]) (dX5_spread_0.at 1 rfl) (by decide) rfl ?_
  refine sw_iconst (dX5_spread_0.at 2 rfl) ?_
  refine sw_istore (lo' := [some (vr (11)), some (vr (e)), some (vi (((u : Nat) : Int))), some (vi (((kn : Nat) : Int))), some (vi (((kn : Nat) : Int))), some (vi (0)), none, none, none]) (dX5_spread_0.at 3 rfl) (by decide) rfl ?_
  exact hv

def RQ (Q : Nat → Int) (D : Nat → Nat) (n : Nat) : Prop := ∀ q, q < n → Q q = ((D q : Nat) : Int)
theorem rw_inj {P : GD} (hV : GV P) (hC : GC P) (hS : hSp P) {x : Nat} (hx : x < gN P) {u v : Nat} (hu : u < gW P x) (hv : v < gW P x) (h : rwN P x u = rwN P x v) : u = v := by
  rcases Nat.lt_trichotomy u v with q | q | q
  · have h1 : rwN P x u < rwN P x v := rowF_mono hV hC hS _ x rfl hx u v q hv
    omega
  · exact q
  · have h1 : rwN P x v < rwN P x u := rowF_mono hV hC hS _ x rfl hx v u q hu
    omega
theorem BP_S {P : GD} {x u : Nat} {F : Nat → Int} {p : Nat} (h : BP P x u F p) (h1 : ∀ v, v < gW P x → rwN P x v = mvd P (rwN P x u) (gL P x) p → v = u ∨ F v ≠ -1) : BP P x u F (p + 1) := by
  intro q hq v hv hh
  by_cases e : q = p
  · rw [e] at hh; exact h1 v hv hh
  · exact h q (by omega) v hv hh
theorem BP_u {P : GD} {x u : Nat} {F : Nat → Int} {p y : Nat} {w : Int} (h : BP P x u F p) (hw : w ≠ -1) : BP P x u (u1 F y w) p := by
  intro q hq v hv hh
  by_cases e : v = y
  · right; rw [e, u1_eq]; exact hw
  · rw [u1_ne e]; exact h q hq v hv hh
set_option maxHeartbeats 4000000 in
theorem lp_X5_spread {G : GG} {j nw nx gn : Nat} {g : Nat → Sh} {c : Nat → Nat → Int} {post : Option AV → AM → Prop} {P : GD} {e x k i u kn : Nat} {d : Nat → Nat} (he : e = 21 ∨ e = 35) (hE : EL c e P) (hV : GV P) (hC : GC P) (hS : hSp P) (hx : x < gN P) (hd : DP P x k d) (hSz : c 11 4 = ((gL P x : Nat) : Int)) (hMn : c 11 3 = ((gW P x : Nat) : Int)) (hM2 : 0 < gW P x ∧ gW P x ≤ 240) (hR5 : ∀ v, v < gW P x → c 12 v = ((rwN P x v : Nat) : Int)) (hu : u < gW P x) (K : ∀ (F Q : Nat → Int) (D : Nat → Nat) (n : Nat), BQ P x k d F D n → BD P x F D (i + 1) → BT d D i n → i < n → RQ Q D n → post (some (vi ((n : Nat) : Int))) (S nw nx g, 78 + gn, (wr (wr c 13 F) 14 Q))) :
  ∀ (f p a : Nat) (F Q : Nat → Int) (D : Nat → Nat), p + f = gL P x - 1 → BQ P x k d F D a → BD P x F D i → BT d D i a → i < a → D i = u → BP P x u F p → RQ Q D a → SW G (j + 2) mX5_spread 6 [some (vr (11)), some (vr (e)), some (vi (((u : Nat) : Int))), some (vi (((kn : Nat) : Int))), some (vi (((a : Nat) : Int))), some (vi (((p : Nat) : Int))), none, none, none] [] (S nw nx g, 78 + gn, (wr (wr c 13 F) 14 Q)) B0 post := by
  have hz := (hV.2.2.1 x hx).1
  have hR0 : 0 < gR P := by have := hV.1.2.2.2; omega
  have hRb : ∀ v, v < gW P x → rwN P x v < 2 ^ 40 := fun v _ => rowF_lt hV hz
  have hmo : ∀ v w, v < w → w < gW P x → rwN P x v < rwN P x w := fun v w h1 h2 => rowF_mono hV hC hS _ x rfl hx v w h1 h2
  intro f
  induction f with
  | zero =>
    intro p a F Q D hp h1 h2 h3 hi h4 h5 h6
    have h7 : BD P x F D (i + 1) := BP_BD hV h1 hi h2 (by
      rw [h4]
      have e : gL P x - 1 = p := by omega
      rw [e]; exact h5)
    refine g_X5_spread_6 he hE hV hSz hz hMn hM2 hR5 hRb ?_
    refine ⟨?_, ?_, ⟨fun q => ?_, fun q => ⟨?_, ⟨?_, ?_, ?_, ?_, ⟨?_, ⟨?_, ?_, ⟨fun q => ⟨?_, ?_, ?_⟩, fun q => ?_⟩⟩⟩⟩⟩⟩⟩
    all_goals first | omega | exact K F Q D a h1 h7 h3 hi h6 | (exfalso; omega)
  | succ f ih =>
    intro p a F Q D hp h1 h2 h3 hi h4 h5 h6
    have hp1 : p + 1 < gL P x := by omega
    have r8 : rwN P x u < 8 ^ gL P x := rowF_8 hV _ _ _
    have m8 := mvd_lt (P := P) (i := p) r8
    have m62 := p8_62 m8 hz
    have r62 := p8_62 r8 hz
    have d1 : dg (rwN P x u) (gL P x) p < gR P := by
      have e1 : dg (rwN P x u) (gL P x) p = rlF P p x u := dg_row hV (by omega)
      rw [e1]; exact rl_lt hR0 _ _ _
    have d2 : dg (rwN P x u) (gL P x) (p + 1) < gR P := by
      have e1 : dg (rwN P x u) (gL P x) (p + 1) = rlF P (p + 1) x u := dg_row hV hp1
      rw [e1]; exact rl_lt hR0 _ _ _
    have a9 := BQ_le h1
    have hFu : F u = ((d u : Nat) : Int) := by rw [← h4]; exact (h1.1 i hi).2
    have hN : (∀ v, v < gW P x → rwN P x v = mvd P (rwN P x u) (gL P x) p → v = u ∨ F v ≠ -1) → SW G (j + 2) mX5_spread 6 [some (vr (11)), some (vr (e)), some (vi (((u : Nat) : Int))), some (vi (((kn : Nat) : Int))), some (vi (((a : Nat) : Int))), some (vi (((p + 1 : Nat) : Int))), none, none, none] [] (S nw nx g, 78 + gn, (wr (wr c 13 F) 14 Q)) B0 post := fun hh => ih (p + 1) a F Q D (by omega) h1 h2 h3 hi h4 (BP_S h5 hh) h6
    refine g_X5_spread_6 he hE hV hSz hz hMn hM2 hR5 hRb ?_
    by_cases em : mvd P (rwN P x u) (gL P x) p = rwN P x u
    · have hq := hN (fun v hv hh => Or.inl (rw_inj hV hC hS hx hv hu (by rw [hh, em])))
      refine ⟨?_, ?_, ⟨fun q => ?_, fun q => ⟨?_, ⟨?_, ?_, ?_, ?_, ⟨?_, ⟨?_, ?_, ⟨fun q => ⟨?_, ?_, ?_⟩, fun q => ?_⟩⟩⟩⟩⟩⟩⟩
      all_goals first | omega | assumption | exact g_X5_spread_56e he hE hV hSz hz hMn hM2 hR5 hRb hq | (exfalso; omega)
    · have hG : SW G (j + 2) mX5_spread 56 [some (vr (11)), some (vr (e)), some (vi (((u : Nat) : Int))), some (vi (((kn : Nat) : Int))), some (vi (((a : Nat) : Int))), some (vi (((p : Nat) : Int))), none, none, some (vi (fdF (rwN P x) (mvd P (rwN P x u) (gL P x) p) (gW P x)))] [] (S nw nx g, 78 + gn, (wr (wr c 13 F) 14 Q)) B0 post := by
        rcases fdF_cases (rwN P x) (mvd P (rwN P x u) (gL P x) p) (gW P x) with ⟨z1, z2⟩ | ⟨y, y1, y2, y3⟩
        · rw [z1]
          exact g_X5_spread_56e he hE hV hSz hz hMn hM2 hR5 hRb (hN (fun v hv hh => absurd hh (z2 v hv)))
        · rw [y3]
          have hdy := hd.2.2.2.2 y y1
          refine g_X5_spread_56n he hE hV hSz hz hMn hM2 hR5 hRb ?_
          by_cases eF : F y = -1
          · have nb : nbR P x (D i) y = true := nbR_iff.mpr ⟨p, by rw [h4]; exact mvd_NB hV hp1 em y2⟩
            obtain ⟨b1, b2, b3, b4⟩ := BQ_app hd h1 h2 h3 hi y1 eF nb
            have a10 := BQ_le b1
            rw [h4, ← hFu] at b1 b2
            rw [h4] at b4
            have hw : F u + 1 ≠ -1 := by omega
            have hq := ih (p + 1) (a + 1) (u1 F y (F u + 1)) (u1 Q a ((y : Nat) : Int)) (uN D a y) (by omega) b1 b2 b3 (by omega) b4 (BP_S (BP_u h5 hw) (fun v hv hh => by
              right
              have ev : v = y := rw_inj hV hC hS hx hv y1 (by rw [hh, y2])
              rw [ev, u1_eq]; exact hw)) (fun q hq => by
              by_cases e : q = a
              · rw [e, u1_eq, uN_eq]
              · rw [u1_ne e, uN_ne e]; exact h6 q (by omega))
            refine ⟨?_, ⟨fun q => ?_, fun q => ⟨?_, ⟨?_, ⟨fun q => ?_, fun q => ⟨?_, ⟨fun q => ?_, fun q => ⟨?_, ⟨?_, ⟨?_, ?_⟩⟩⟩⟩⟩⟩⟩⟩⟩⟩
            all_goals first | omega | assumption | exact hq | (exfalso; omega)
          · have hy := BQ_F h1 y1 eF
            have hq := hN (fun v hv hh => by
              right
              have ev : v = y := rw_inj hV hC hS hx hv y1 (by rw [hh, y2])
              rw [ev]; exact eF)
            refine ⟨?_, ⟨fun q => ?_, fun q => ⟨?_, ⟨?_, ⟨fun q => ?_, fun q => ⟨?_, ⟨fun q => ?_, fun q => ⟨?_, ⟨?_, ⟨?_, ?_⟩⟩⟩⟩⟩⟩⟩⟩⟩⟩
            all_goals first | omega | assumption | exact hq | (exfalso; omega)
      refine ⟨?_, ?_, ⟨fun q => ?_, fun q => ⟨?_, ⟨?_, ?_, ?_, ?_, ⟨?_, ⟨?_, ?_, ⟨fun q => ⟨?_, ?_, ?_⟩, fun q => ?_⟩⟩⟩⟩⟩⟩⟩
      all_goals first | omega | assumption | exact hG | (exfalso; omega)

