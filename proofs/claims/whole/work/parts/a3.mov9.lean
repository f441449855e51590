theorem c_spread {G : GG} {j nw nx gn : Nat} {g : Nat → Sh} {c : Nat → Nat → Int} {post : Option AV → AM → Prop} {P : GD} {e x k i u kn : Nat} {d : Nat → Nat} {F Q : Nat → Int} {D : Nat → Nat} (he : e = 21 ∨ e = 35) (hE : EL c e P) (hV : GV P) (hC : GC P) (hS : hSp P) (hx : x < gN P) (hd : DP P x k d) (hSz : c 11 4 = ((gL P x : Nat) : Int)) (hMn : c 11 3 = ((gW P x : Nat) : Int)) (hM2 : 0 < gW P x ∧ gW P x ≤ 240) (hR5 : ∀ v, v < gW P x → c 12 v = ((rwN P x v : Nat) : Int)) (h1 : BQ P x k d F D kn) (h2 : BD P x F D i) (h3 : BT d D i kn) (hi : i < kn) (h4 : D i = u) (h6 : RQ Q D kn) (K : ∀ (F Q : Nat → Int) (D : Nat → Nat) (n : Nat), BQ P x k d F D n → BD P x F D (i + 1) → BT d D i n → i < n → RQ Q D n → post (some (vi ((n : Nat) : Int))) (S nw nx g, 78 + gn, (wr (wr c 13 F) 14 Q))) : SM G (j + 3) mX5_spread [vr 11, vr e, vi ((u : Nat) : Int), vi ((kn : Nat) : Int)] (S nw nx g, 78 + gn, (wr (wr c 13 F) 14 Q)) 0 0 post := by
  refine sm_of wX5_spread rfl (Nat.le_of_ble_eq_true rfl) ?_
  refine g_X5_spread_0 he ?_
  exact lp_X5_spread he hE hV hC hS hx hd hSz hMn hM2 hR5 (by rw [← h4]; exact (h1.1 i hi).1) K (gL P x - 1) 0 kn F Q D (by omega) h1 h2 h3 hi h4 (fun q hq => by omega) h6
def GQ (P : GD) (x k i : Nat) (d : Nat → Nat) (c c2 : Nat → Nat → Int) (n : Nat) : Prop := ∃ (F Q : Nat → Int) (D : Nat → Nat), c2 = (wr (wr c 13 F) 14 Q) ∧ BQ P x k d F D n ∧ BD P x F D (i + 1) ∧ BT d D i n ∧ i < n ∧ RQ Q D n
theorem cN_un {P : GD} {x k n m : Nat} {d : Nat → Nat} {F : Nat → Int} {D D2 : Nat → Nat} (h : BQ P x k d F D n) (h2 : BQ P x k d F D2 m) : n ≤ m := by
  have hex : ∀ q, ∃ r, q < n → (r < m ∧ D2 r = D q) := by
    intro q
    by_cases hq : q < n
    · rcases h2.2.1 (D q) (h.1 q hq).1 with e | ⟨r, a, b⟩
      · have := (h.1 q hq).2
        rw [e] at this; omega
      · exact ⟨r, fun _ => ⟨a, b⟩⟩
    · exact ⟨0, fun hh => absurd hh hq⟩
  refine inj_le m n (fun q => Classical.choose (hex q)) (fun q hq => (Classical.choose_spec (hex q) hq).1) (fun q q' hq hq' he => ?_)
  have e1 := (Classical.choose_spec (hex q) (by omega)).2
  have e2 := (Classical.choose_spec (hex q') hq').2
  rw [show Classical.choose (hex q) = Classical.choose (hex q') from he, e2] at e1
  exact h.2.2.1 q q' hq hq' e1.symm
theorem kn_un {P : GD} {x k i : Nat} {d : Nat → Nat} {c c2 : Nat → Nat → Int} {n m : Nat} (h : GQ P x k i d c c2 n) (h2 : GQ P x k i d c c2 m) : n = m := by
  obtain ⟨F, Q, D, e, b, _⟩ := h
  obtain ⟨F2, Q2, D2, e2, b2, _⟩ := h2
  have ef : F = F2 := by
    have h1 : c2 13 = F := by rw [e, wr_offR (by decide), wr_at]
    have h3 : c2 13 = F2 := by rw [e2, wr_offR (by decide), wr_at]
    rw [← h1, h3]
  subst ef
  have := cN_un b b2
  have := cN_un b2 b
  omega
noncomputable def kn2 (P : GD) (x k i : Nat) (d : Nat → Nat) (c c2 : Nat → Nat → Int) : Nat := Classical.epsilon (GQ P x k i d c c2)
abbrev S5 (c d : Nat → Nat → Int) : Prop := ∀ a, a < 11 ∨ 14 < a → d a = c a
set_option maxHeartbeats 2000000 in
set_option maxRecDepth 20000 in
theorem g_X5_fewest_0 {G : GG} {j nw nx gn : Nat} {g : Nat → Sh} {c : Nat → Nat → Int} {post : Option AV → AM → Prop} {e : Nat} {x : Nat} {k : Nat} {l : Nat} (he : e = 21 ∨ e = 35) {P : GD} (hE : EL c e P) (hV : GV P) (hL : hLn P)  (hv : (x < gN P) ∧ (∀ c_1 : Nat → Nat → Int, L5 P x c c_1 → (k < 2147483648) ∧ (gW P x < 2147483648) ∧ (((gW P x ≤ k) → post (some (vi ((-2)))) (S nw nx g, 78 + gn, c_1)) ∧ ((¬ (gW P x ≤ k)) → (l < 2147483648) ∧ (gW P x < 2147483648) ∧ (((l < gW P x) → SW G (j + 4) mX5_fewest 26 [some (vr (11)), some (vr (e)), some (vi (((x : Nat) : Int))), some (vi (((k : Nat) : Int))), some (vi (((l : Nat) : Int))), none, none] [] (S nw nx g, 78 + gn, c_1) B0 post) ∧ ((¬ (l < gW P x)) → post (some (vi ((-2)))) (S nw nx g, 78 + gn, c_1))))))) :
    SW G (j + 4) mX5_fewest 0 [some (vr (11)), some (vr (e)), some (vi (((x : Nat) : Int))), some (vi (((k : Nat) : Int))), some (vi (((l : Nat) : Int))), none, none] [] (S nw nx g, 78 + gn, c) B0 post := by
  refine sw_aload_n (dX5_fewest.at 0 rfl) rfl rfl ?_
  refine sw_aload_n (dX5_fewest.at 1 rfl) rfl rfl ?_
  refine sw_iload_n (dX5_fewest.at 2 rfl) rfl rfl ?_
  refine sw_callV (B' := B0) (As := [vr (e), vi (((x : Nat) : Int))]) (mc := 0) (ms := 0) (dX5_fewest.at 3 rfl) lk_X5_22 (S_lt 11 (by decide)) (S_11 nw nx g) rfl rfl (Nat.le_of_ble_eq_true rfl) rfl (Nat.le_refl _) (Nat.le_refl _) ?_
  refine c_X5_list (e := e) (x := x) (j := j + 0) he hE hV hL hv.1 (fun c_1 h_1 => ?_)
  replace hv := hv.2 c_1 h_1
  refine sw_iload_n (dX5_fewest.at 4 rfl) rfl rfl ?_
  refine sw_aload_n (dX5_fewest.at 5 rfl) rfl rfl ?_
  refine sw_getIE (w := ((gW P x : Nat) : Int)) (dX5_fewest.at 6 rfl) fp_X5_26 (S_lt 11 (by decide)) (S_11 nw nx g) rfl h_1.2.1 ?_
  refine sw_icmpN_ge k (gW P x) (tgt := 23) (dX5_fewest.at 7 rfl) (by decide) hv.1 hv.2.1 (fun q => ?_) (fun q => ?_)
  · replace hv := hv.2.2.1 q
    refine sw_bipush (dX5_fewest.at 12 rfl) (by decide) ?_
    exact sw_iret (dX5_fewest.at 13 rfl) rfl (Nat.le_refl _) (Nat.le_refl _) hv
  · replace hv := hv.2.2.2 q
    refine sw_iload (dX5_fewest.at 8 rfl) rfl ?_
    refine sw_aload_n (dX5_fewest.at 9 rfl) rfl rfl ?_
    refine sw_getIE (w := ((gW P x : Nat) : Int)) (dX5_fewest.at 10 rfl) fp_X5_26 (S_lt 11 (by decide)) (S_11 nw nx g) rfl h_1.2.1 ?_
    refine sw_icmpN_lt l (gW P x) (tgt := 26) (dX5_fewest.at 11 rfl) (by decide) hv.1 hv.2.1 (fun q => ?_) (fun q => ?_)
    · replace hv := hv.2.2.1 q
      exact hv
    · replace hv := hv.2.2.2 q
      refine sw_bipush (dX5_fewest.at 12 rfl) (by decide) ?_
      exact sw_iret (dX5_fewest.at 13 rfl) rfl (Nat.le_refl _) (Nat.le_refl _) hv

set_option maxHeartbeats 2000000 in
set_option maxRecDepth 20000 in
theorem g_X5_fewest_26 {G : GG} {j nw nx gn : Nat} {g : Nat → Sh} {c : Nat → Nat → Int} {post : Option AV → AM → Prop} {e : Nat} {x : Nat} {k : Nat} {l : Nat} (he : e = 21 ∨ e = 35) {F : Nat → Int} {Q : Nat → Int}  (hv : (k < 240) ∧ (SW G (j + 4) mX5_fewest 46 [some (vr (11)), some (vr (e)), some (vi (((x : Nat) : Int))), some (vi (((k : Nat) : Int))), some (vi (((l : Nat) : Int))), some (vi (1)), some (vi (0))] [] (S nw nx g, 78 + gn, (wr (wr c 13 (u1 F k 0)) 14 (u1 Q 0 ((k : Nat) : Int)))) B0 post)) :
    SW G (j + 4) mX5_fewest 26 [some (vr (11)), some (vr (e)), some (vi (((x : Nat) : Int))), some (vi (((k : Nat) : Int))), some (vi (((l : Nat) : Int))), none, none] [] (S nw nx g, 78 + gn, (wr (wr c 13 F) 14 Q)) B0 post := by
  refine sw_aload_n (dX5_fewest.at 14 rfl) rfl rfl ?_
  refine sw_getR (dX5_fewest.at 15 rfl) fp_X5_15 (S_lt 11 (by decide)) (S_11 nw nx g) rfl rfl ?_
  refine sw_iload_n (dX5_fewest.at 16 rfl) rfl rfl ?_
  refine sw_iconst (dX5_fewest.at 17 rfl) ?_
  refine sw_iastN k (dX5_fewest.at 18 rfl) (S_lt 13 (by decide)) (S_13 nw nx g) (by decide) hv.1 ?_
  refine SW.cg (M' := (S nw nx g, 78 + gn, (wr (wr c 13 (u1 F k 0)) 14 Q))) (congrArg (fun m => (S nw nx g, 78 + gn, m)) ((wr_up_in (wr c 13 F) 14 Q 13 k 0 (by decide)).trans (congrArg (fun m => wr m 14 Q) (wr_up c 13 F k 0)))) ?_
  replace hv := hv.2
  refine sw_aload_n (dX5_fewest.at 19 rfl) rfl rfl ?_
  refine sw_getR (dX5_fewest.at 20 rfl) fp_X5_19 (S_lt 11 (by decide)) (S_11 nw nx g) rfl rfl ?_
  refine sw_iconst (dX5_fewest.at 21 rfl) ?_
  refine sw_iload_n (dX5_fewest.at 22 rfl) rfl rfl ?_
  refine sw_iastN 0 (dX5_fewest.at 23 rfl) (S_lt 14 (by decide)) (S_14 nw nx g) (by decide) (by decide) ?_
  refine SW.cg (M' := (S nw nx g, 78 + gn, (wr (wr c 13 (u1 F k 0)) 14 (u1 Q 0 ((k : Nat) : Int))))) (congrArg (fun m => (S nw nx g, 78 + gn, m)) (wr_up (wr c 13 (u1 F k 0)) 14 Q 0 ((k : Nat) : Int))) ?_
  refine sw_iconst (dX5_fewest.at 24 rfl) ?_
  refine sw_istore (lo' := [some (vr (11)), some (vr (e)), some (vi (((x : Nat) : Int))), some (vi (((k : Nat) : Int))), some (vi (((l : Nat) : Int))), some (vi (1)), none]) (dX5_fewest.at 25 rfl) (by decide) rfl ?_
  refine sw_iconst (dX5_fewest.at 26 rfl) ?_
  refine sw_istore (lo' := [some (vr (11)), some (vr (e)), some (vi (((x : Nat) : Int))), some (vi (((k : Nat) : Int))), some (vi (((l : Nat) : Int))), some (vi (1)), some (vi (0))]) (dX5_fewest.at 27 rfl) (by decide) rfl ?_
  exact hv

set_option maxHeartbeats 2000000 in
set_option maxRecDepth 20000 in
theorem g_X5_fewest_46 {G : GG} {j nw nx gn : Nat} {g : Nat → Sh} {c : Nat → Nat → Int} {post : Option AV → AM → Prop} {e : Nat} {x : Nat} {k : Nat} {l : Nat} (he : e = 21 ∨ e = 35) {M : Nat} {kn : Nat} {i : Nat} {F : Nat → Int} {Q : Nat → Int} {D : Nat → Nat} {SP : (Nat → Nat → Int) → Prop} {k2 : (Nat → Nat → Int) → Nat} (hMn : c 11 3 = ((M : Nat) : Int)) (hM2 : 0 < M ∧ M ≤ 240) (hkn : kn ≤ 240) (hQ : ∀ q, q < kn → Q q = ((D q : Nat) : Int)) (hcall : ∀ (po : Option AV → AM → Prop), i < kn → (∀ c2 : Nat → Nat → Int, SP c2 → po (some (vi ((k2 c2 : Nat) : Int))) (S nw nx g, 78 + gn, c2)) → SM G (j + 4) mX5_spread [vr 11, vr e, vi ((D i : Nat) : Int), vi ((kn : Nat) : Int)] (S nw nx g, 78 + gn, (wr (wr c 13 F) 14 Q)) 0 0 po)  (hv : (i < 2147483648) ∧ (M < 2147483648) ∧ (((M ≤ i) → (l < M) ∧ (post (some (vi (F l))) (S nw nx g, 78 + gn, (wr (wr c 13 F) 14 Q)))) ∧ ((¬ (M ≤ i)) → (i < 2147483648) ∧ (kn < 2147483648) ∧ (((kn ≤ i) → (l < M) ∧ (post (some (vi (F l))) (S nw nx g, 78 + gn, (wr (wr c 13 F) 14 Q)))) ∧ ((¬ (kn ≤ i)) → (l < M) ∧ ((-2147483648 ≤ F l ∧ F l < 2147483648) ∧ (((F l ≠ (-1)) → (l < M) ∧ (post (some (vi (F l))) (S nw nx g, 78 + gn, (wr (wr c 13 F) 14 Q)))) ∧ ((F l = (-1)) → (i < kn) ∧ ((i < kn) ∧ (∀ c_1 : Nat → Nat → Int, SP c_1 → SW G (j + 4) mX5_fewest 46 [some (vr (11)), some (vr (e)), some (vi (((x : Nat) : Int))), some (vi (((k : Nat) : Int))), some (vi (((l : Nat) : Int))), some (vi (((k2 c_1 : Nat) : Int))), some (vi (((i + 1 : Nat) : Int)))] [] (S nw nx g, 78 + gn, c_1) B0 post)))))))))) :
    SW G (j + 4) mX5_fewest 46 [some (vr (11)), some (vr (e)), some (vi (((x : Nat) : Int))), some (vi (((k : Nat) : Int))), some (vi (((l : Nat) : Int))), some (vi (((kn : Nat) : Int))), some (vi (((i : Nat) : Int)))] [] (S nw nx g, 78 + gn, (wr (wr c 13 F) 14 Q)) B0 post := by
  refine sw_iload (dX5_fewest.at 28 rfl) rfl ?_
  refine sw_aload_n (dX5_fewest.at 29 rfl) rfl rfl ?_
  refine sw_getIE (w := ((M : Nat) : Int)) (dX5_fewest.at 30 rfl) fp_X5_26 (S_lt 11 (by decide)) (S_11 nw nx g) rfl ((wr_off (c := (wr c 13 F)) (a := 14) (f := Q) (i := 11) (k := 3) (by decide)).trans ((wr_off (c := c) (a := 13) (f := F) (i := 11) (k := 3) (by decide)).trans hMn)) ?_
  refine sw_icmpN_ge i M (tgt := 95) (dX5_fewest.at 31 rfl) (by decide) hv.1 hv.2.1 (fun q => ?_) (fun q => ?_)
  · replace hv := hv.2.2.1 q
    refine sw_aload_n (dX5_fewest.at 52 rfl) rfl rfl ?_
    refine sw_getR (dX5_fewest.at 53 rfl) fp_X5_15 (S_lt 11 (by decide)) (S_11 nw nx g) rfl rfl ?_
    refine sw_iload (dX5_fewest.at 54 rfl) rfl ?_
    refine sw_ialdN l (w := F l) (dX5_fewest.at 55 rfl) (S_lt 13 (by decide)) (S_13 nw nx g) (by decide) (Nat.lt_of_lt_of_le hv.1 hM2.2) rfl ?_
    replace hv := hv.2
    exact sw_iret (dX5_fewest.at 56 rfl) rfl (Nat.le_refl _) (Nat.le_refl _) hv
  · replace hv := hv.2.2.2 q
    refine sw_iload (dX5_fewest.at 32 rfl) rfl ?_
    refine sw_iload (dX5_fewest.at 33 rfl) rfl ?_
    refine sw_icmpN_ge i kn (tgt := 95) (dX5_fewest.at 34 rfl) (by decide) hv.1 hv.2.1 (fun q => ?_) (fun q => ?_)
    · replace hv := hv.2.2.1 q
      refine sw_aload_n (dX5_fewest.at 52 rfl) rfl rfl ?_
      refine sw_getR (dX5_fewest.at 53 rfl) fp_X5_15 (S_lt 11 (by decide)) (S_11 nw nx g) rfl rfl ?_
      refine sw_iload (dX5_fewest.at 54 rfl) rfl ?_
      refine sw_ialdN l (w := F l) (dX5_fewest.at 55 rfl) (S_lt 13 (by decide)) (S_13 nw nx g) (by decide) (Nat.lt_of_lt_of_le hv.1 hM2.2) rfl ?_
      replace hv := hv.2
      exact sw_iret (dX5_fewest.at 56 rfl) rfl (Nat.le_refl _) (Nat.le_refl _) hv
    · replace hv := hv.2.2.2 q
      refine sw_aload_n (dX5_fewest.at 35 rfl) rfl rfl ?_
      refine sw_getR (dX5_fewest.at 36 rfl) fp_X5_15 (S_lt 11 (by decide)) (S_11 nw nx g) rfl rfl ?_
      refine sw_iload (dX5_fewest.at 37 rfl) rfl ?_
      refine sw_ialdN l (w := F l) (dX5_fewest.at 38 rfl) (S_lt 13 (by decide)) (S_13 nw nx g) (by decide) (Nat.lt_of_lt_of_le hv.1 hM2.2) rfl ?_
      replace hv := hv.2
      refine sw_iconst (dX5_fewest.at 39 rfl) ?_
      refine sw_icmp_ne (tgt := 95) (dX5_fewest.at 40 rfl) (by decide) hv.1 (by decide) (fun q => ?_) (fun q => ?_)
      · replace hv := hv.2.1 q
        refine sw_aload_n (dX5_fewest.at 52 rfl) rfl rfl ?_
        refine sw_getR (dX5_fewest.at 53 rfl) fp_X5_15 (S_lt 11 (by decide)) (S_11 nw nx g) rfl rfl ?_
        refine sw_iload (dX5_fewest.at 54 rfl) rfl ?_
        refine sw_ialdN l (w := F l) (dX5_fewest.at 55 rfl) (S_lt 13 (by decide)) (S_13 nw nx g) (by decide) (Nat.lt_of_lt_of_le hv.1 hM2.2) rfl ?_
        replace hv := hv.2
        exact sw_iret (dX5_fewest.at 56 rfl) rfl (Nat.le_refl _) (Nat.le_refl _) hv
      · replace hv := hv.2.2 q
        refine sw_aload_n (dX5_fewest.at 41 rfl) rfl rfl ?_
        refine sw_aload_n (dX5_fewest.at 42 rfl) rfl rfl ?_
        refine sw_aload_n (dX5_fewest.at 43 rfl) rfl rfl ?_
        refine sw_getR (dX5_fewest.at 44 rfl) fp_X5_19 (S_lt 11 (by decide)) (S_11 nw nx g) rfl rfl ?_
        refine sw_iload (dX5_fewest.at 45 rfl) rfl ?_
        refine sw_ialdN i (w := ((D i : Nat) : Int)) (dX5_fewest.at 46 rfl) (S_lt 14 (by decide)) (S_14 nw nx g) (by decide) (Nat.lt_of_lt_of_le hv.1 hkn) (hQ _ hv.1) ?_
        replace hv := hv.2
        refine sw_iload (dX5_fewest.at 47 rfl) rfl ?_
        refine sw_callV (B' := B0) (As := [vr (e), vi (((D i : Nat) : Int)), vi (((kn : Nat) : Int))]) (mc := 0) (ms := 0) (dX5_fewest.at 48 rfl) lk_X5_30 (S_lt 11 (by decide)) (S_11 nw nx g) rfl rfl (Nat.le_of_ble_eq_true rfl) rfl (Nat.le_refl _) (Nat.le_refl _) ?_
        refine hcall _ hv.1 (fun c_1 h_1 => ?_)
        replace hv := hv.2 c_1 h_1
        refine sw_istore (lo' := [some (vr (11)), some (vr (e)), some (vi (((x : Nat) : Int))), some (vi (((k : Nat) : Int))), some (vi (((l : Nat) : Int))), some (vi (((k2 c_1 : Nat) : Int))), some (vi (((i : Nat) : Int)))]) (dX5_fewest.at 49 rfl) (by decide) rfl ?_
        refine sw_iinc (lo' := [some (vr (11)), some (vr (e)), some (vi (((x : Nat) : Int))), some (vi (((k : Nat) : Int))), some (vi (((l : Nat) : Int))), some (vi (((k2 c_1 : Nat) : Int))), some (vi (((i + 1 : Nat) : Int)))]) (dX5_fewest.at 50 rfl) rfl (by decide) rfl ?_
        refine sw_goto (tgt := 46) (dX5_fewest.at 51 rfl) (by decide) ?_
        exact hv

set_option maxHeartbeats 4000000 in
theorem lp_X5_fewest {G : GG} {j nw nx gn : Nat} {g : Nat → Sh} {c : Nat → Nat → Int} {post : Option AV → AM → Prop} {P : GD} {e x k l : Nat} {d : Nat → Nat} (he : e = 21 ∨ e = 35) (hE : EL c e P) (hV : GV P) (hC : GC P) (hS : hSp P) (hx : x < gN P) (hd : DP P x k d) (hSz : c 11 4 = ((gL P x : Nat) : Int)) (hMn : c 11 3 = ((gW P x : Nat) : Int)) (hM2 : 0 < gW P x ∧ gW P x ≤ 240) (hR5 : ∀ v, v < gW P x → c 12 v = ((rwN P x v : Nat) : Int)) (hl : l < gW P x) (K : ∀ F Q : Nat → Int, post (some (vi ((d l : Nat) : Int))) (S nw nx g, 78 + gn, (wr (wr c 13 F) 14 Q))) : ∀ (f i kn : Nat) (F Q : Nat → Int) (D : Nat → Nat), i + f = gW P x → BQ P x k d F D kn → BD P x F D i → (i < kn → BT d D i kn) → i ≤ kn → RQ Q D kn → SW G (j + 4) mX5_fewest 46 [some (vr (11)), some (vr (e)), some (vi (((x : Nat) : Int))), some (vi (((k : Nat) : Int))), some (vi (((l : Nat) : Int))), some (vi (((kn : Nat) : Int))), some (vi (((i : Nat) : Int)))] [] (S nw nx g, 78 + gn, (wr (wr c 13 F) 14 Q)) B0 post := by
  have hdl := hd.2.2.2.2 l hl
  intro f
  induction f with
  | zero =>
    intro i kn F Q D hi h1 h2 h3 h5 h6
    have a9 := BQ_le h1
    have hF := BQ_F h1 hl (BQ_all hd h1 h2 (by omega) _ l (Nat.le_refl _) hl)
    have K2 := K F Q
    rw [← hF] at K2
    refine g_X5_fewest_46 (SP := fun _ => False) (k2 := fun _ => 0) (D := D) he hMn hM2 (by omega) h6 (fun po q => absurd q (by omega)) ?_
    refine ⟨?_, ?_, ⟨fun q => ⟨?_, ?_⟩, fun q => ⟨?_, ?_, ⟨fun q => ⟨?_, ?_⟩, fun q => ⟨?_, ⟨?_, ⟨fun q => ⟨?_, ?_⟩, fun q => ⟨?_, ⟨?_, fun c_1 h_1 => ?_⟩⟩⟩⟩⟩⟩⟩⟩⟩
    all_goals first | omega | assumption | exact K2 | (exfalso; omega)
  | succ f ih =>
    intro i kn F Q D hi h1 h2 h3 h5 h6
    have a9 := BQ_le h1
    by_cases hk : i < kn
    · have hbt := h3 hk
      have hr : -1 ≤ F l ∧ F l < 100000 := by
        by_cases q : F l = -1
        · omega
        · have := BQ_F h1 hl q; omega
      refine g_X5_fewest_46 (SP := fun c2 => ∃ n, GQ P x k i d c c2 n) (k2 := kn2 P x k i d c) (D := D) he hMn hM2 (by omega) h6 (fun po q Kp => c_spread (j := j + 1) he hE hV hC hS hx hd hSz hMn hM2 hR5 h1 h2 hbt hk rfl h6 (fun F2 Q2 D2 n b1 b2 b3 b4 b5 => ?_)) ?_
      · have hg : GQ P x k i d c (wr (wr c 13 F2) 14 Q2) n := ⟨F2, Q2, D2, rfl, b1, b2, b3, b4, b5⟩
        have hg2 : GQ P x k i d c (wr (wr c 13 F2) 14 Q2) (kn2 P x k i d c (wr (wr c 13 F2) 14 Q2)) := Classical.epsilon_spec ⟨n, hg⟩
        have hn : kn2 P x k i d c (wr (wr c 13 F2) 14 Q2) = n := kn_un hg2 hg
        have := Kp _ ⟨n, hg⟩
        rw [hn] at this
        exact this
      · by_cases eF : F l = -1
        · have hnext : ∀ c_1 : Nat → Nat → Int, (∃ n, GQ P x k i d c c_1 n) → SW G (j + 4) mX5_fewest 46 [some (vr (11)), some (vr (e)), some (vi (((x : Nat) : Int))), some (vi (((k : Nat) : Int))), some (vi (((l : Nat) : Int))), some (vi (((kn2 P x k i d c c_1 : Nat) : Int))), some (vi (((i + 1 : Nat) : Int)))] [] (S nw nx g, 78 + gn, c_1) B0 post := by
            intro c_1 hs
            have hg : GQ P x k i d c c_1 (kn2 P x k i d c c_1) := Classical.epsilon_spec hs
            generalize kn2 P x k i d c c_1 = n at hg
            obtain ⟨F2, Q2, D2, e1, b1, b2, b3, b4, b5⟩ := hg
            subst e1
            exact ih (i + 1) n F2 Q2 D2 (by omega) b1 b2 (fun q => BT_next b1 b3 q) (by omega) b5
          refine ⟨?_, ?_, ⟨fun q => ⟨?_, ?_⟩, fun q => ⟨?_, ?_, ⟨fun q => ⟨?_, ?_⟩, fun q => ⟨?_, ⟨?_, ⟨fun q => ⟨?_, ?_⟩, fun q => ⟨?_, ⟨?_, fun c_1 h_1 => ?_⟩⟩⟩⟩⟩⟩⟩⟩⟩
          all_goals first | omega | assumption | exact hnext _ (by assumption) | (exfalso; omega)
        · have hF := BQ_F h1 hl eF
          have K2 := K F Q
          rw [← hF] at K2
          refine ⟨?_, ?_, ⟨fun q => ⟨?_, ?_⟩, fun q => ⟨?_, ?_, ⟨fun q => ⟨?_, ?_⟩, fun q => ⟨?_, ⟨?_, ⟨fun q => ⟨?_, ?_⟩, fun q => ⟨?_, ⟨?_, fun c_1 h_1 => ?_⟩⟩⟩⟩⟩⟩⟩⟩⟩
          all_goals first | omega | assumption | exact K2 | (exfalso; omega)
    · have hF := BQ_F h1 hl (BQ_all hd h1 h2 (by omega) _ l (Nat.le_refl _) hl)
      have K2 := K F Q
      rw [← hF] at K2
      refine g_X5_fewest_46 (SP := fun _ => False) (k2 := fun _ => 0) (D := D) he hMn hM2 (by omega) h6 (fun po q => absurd q (by omega)) ?_
      refine ⟨?_, ?_, ⟨fun q => ⟨?_, ?_⟩, fun q => ⟨?_, ?_, ⟨fun q => ⟨?_, ?_⟩, fun q => ⟨?_, ⟨?_, ⟨fun q => ⟨?_, ?_⟩, fun q => ⟨?_, ⟨?_, fun c_1 h_1 => ?_⟩⟩⟩⟩⟩⟩⟩⟩⟩
      all_goals first | omega | assumption | exact K2 | (exfalso; omega)

set_option maxHeartbeats 2000000 in
theorem c_X5_fewest {G : GG} {j nw nx gn : Nat} {g : Nat → Sh} {c : Nat → Nat → Int} {post : Option AV → AM → Prop} {P : GD} {e : Nat} {x : Nat} {k : Nat} {l : Nat} (he : e = 21 ∨ e = 35) (hE : EL c e P) (hV : GV P) (hL : hLn P) (hC : GC P) (hS : hSp P) (hmv : hMv P) (p1 : x < gN P) (p2 : k < gW P x) (p3 : l < gW P x) (K : ∀ c2 : Nat → Nat → Int, S5 c c2 → post (some (vi (((dMv P x k l : Nat) : Int)))) (S nw nx g, 78 + gn, c2)) : SM G (j + 5) mX5_fewest [vr (11), vr (e), vi (((x : Nat) : Int)), vi (((k : Nat) : Int)), vi (((l : Nat) : Int))] (S nw nx g, 78 + gn, c) 0 0 post := by
  refine sm_of wX5_fewest rfl (Nat.le_of_ble_eq_true rfl) ?_
  have w9 := (hV.2.2.1 x p1).2.2.2.2.2.2.2.1
  have hd := dMv_ok hmv p1 p2
  refine g_X5_fewest_0 he hE hV hL ?_
  refine ⟨?_, fun c_1 h_1 => ⟨?_, ?_, ⟨fun q => ?_, fun q => ⟨?_, ?_, ⟨fun q => ?_, fun q => ?_⟩⟩⟩⟩⟩
  all_goals first | omega | assumption | (exfalso; omega) | skip
  have hb := BQ_0 (F := c_1 13) (D := fun _ => 0) hd p2 h_1.2.2.2.2
  have h9 := lp_X5_fewest (G := G) (j := j) (nw := nw) (nx := nx) (gn := gn) (g := g) (post := post) he (EL_same hE (fun q hq => h_1.1 _ (by omega))) hV hC hS p1 hd h_1.2.2.1 h_1.2.1 (by omega) h_1.2.2.2.1 p3 (fun F Q => K _ (fun a ha => by rw [wr_offR (by omega), wr_offR (by omega)]; exact h_1.1 a ha)) (gW P x) 0 1 (u1 (c_1 13) k 0) (u1 (c_1 14) 0 ((k : Nat) : Int)) (uN (fun _ => 0) 0 k) (by omega) hb.1 hb.2 (fun _ q hq => by
    have e : q = 0 := by omega
    rw [e]; omega) (by omega) (fun q hq => by
    have e : q = 0 := by omega
    rw [e, u1_eq, uN_eq])
  have h8 := g_X5_fewest_26 (G := G) (j := j) (nw := nw) (nx := nx) (gn := gn) (g := g) (post := post) (x := x) (k := k) (l := l) (c := c_1) (F := c_1 13) (Q := c_1 14) he ⟨by omega, h9⟩
  rw [wr_self, wr_self] at h8
  exact h8

