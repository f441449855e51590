set_option maxHeartbeats 2000000 in
set_option maxRecDepth 20000 in
theorem g_X3_resetE {G : GG} {j : Nat} {c : Nat → Nat → Int} {post : Option AV → AM → Prop} {n aa N4 : Nat} {sh : Nat → Sh} {r0 r1 r2 : Option Nat} (h1 : aa < n) (h2 : sh aa = .inr (3, [r0, r1, r2, some N4, none, none])) (h3 : N4 < n) (h4 : sh N4 = .inl (0, 3))  (hv : post none (sh, n, (up2 (up2 (up2 (up2 (up2 c aa 4 0) aa 5 0) N4 0 (-1)) N4 1 (-1)) N4 2 (-1)))) :
    SW G (j + 0) mX3_reset 0 [some (vr (aa)), none] [] (sh, n, c) (0, 0, 0, 0) post := by
  refine sw_aload_n (dX3_reset.at 0 rfl) rfl rfl ?_
  refine sw_lconst (z := 0) (dX3_reset.at 1 rfl) (by decide) ?_
  refine sw_putL (dX3_reset.at 2 rfl) fp_X3_28 h1 h2 rfl ?_
  refine sw_aload_n (dX3_reset.at 3 rfl) rfl rfl ?_
  refine sw_iconst (dX3_reset.at 4 rfl) ?_
  refine sw_putI (dX3_reset.at 5 rfl) fp_X3_32 h1 h2 rfl ?_
  refine sw_iconst (dX3_reset.at 6 rfl) ?_
  refine sw_istore_n (lo' := [some (vr (aa)), some (vi (0))]) (dX3_reset.at 7 rfl) rfl (by decide) rfl ?_
  refine sw_iload_n (dX3_reset.at 8 rfl) rfl rfl ?_
  refine sw_iconst (dX3_reset.at 9 rfl) ?_
  refine sw_icmp_ge (tgt := 30) (dX3_reset.at 10 rfl) (by decide) (by decide) (by decide) (fun q => ?_) (fun q => ?_)
  · exact absurd q (by decide)
  · clear q
    refine sw_aload_n (dX3_reset.at 11 rfl) rfl rfl ?_
    refine sw_getR (dX3_reset.at 12 rfl) fp_X3_21 h1 h2 rfl rfl ?_
    refine sw_iload_n (dX3_reset.at 13 rfl) rfl rfl ?_
    refine sw_iconst (dX3_reset.at 14 rfl) ?_
    refine sw_iastN 0 (dX3_reset.at 15 rfl) h3 h4 (by decide) (by decide) ?_
    refine sw_iinc (lo' := [some (vr (aa)), some (vi (1))]) (dX3_reset.at 16 rfl) rfl (by decide) rfl ?_
    refine sw_goto (tgt := 12) (dX3_reset.at 17 rfl) (by decide) ?_
    refine sw_iload_n (dX3_reset.at 8 rfl) rfl rfl ?_
    refine sw_iconst (dX3_reset.at 9 rfl) ?_
    refine sw_icmp_ge (tgt := 30) (dX3_reset.at 10 rfl) (by decide) (by decide) (by decide) (fun q => ?_) (fun q => ?_)
    · exact absurd q (by decide)
    · clear q
      refine sw_aload_n (dX3_reset.at 11 rfl) rfl rfl ?_
      refine sw_getR (dX3_reset.at 12 rfl) fp_X3_21 h1 h2 rfl rfl ?_
      refine sw_iload_n (dX3_reset.at 13 rfl) rfl rfl ?_
      refine sw_iconst (dX3_reset.at 14 rfl) ?_
      refine sw_iastN 1 (dX3_reset.at 15 rfl) h3 h4 (by decide) (by decide) ?_
      refine sw_iinc (lo' := [some (vr (aa)), some (vi (2))]) (dX3_reset.at 16 rfl) rfl (by decide) rfl ?_
      refine sw_goto (tgt := 12) (dX3_reset.at 17 rfl) (by decide) ?_
      refine sw_iload_n (dX3_reset.at 8 rfl) rfl rfl ?_
      refine sw_iconst (dX3_reset.at 9 rfl) ?_
      refine sw_icmp_ge (tgt := 30) (dX3_reset.at 10 rfl) (by decide) (by decide) (by decide) (fun q => ?_) (fun q => ?_)
      · exact absurd q (by decide)
      · clear q
        refine sw_aload_n (dX3_reset.at 11 rfl) rfl rfl ?_
        refine sw_getR (dX3_reset.at 12 rfl) fp_X3_21 h1 h2 rfl rfl ?_
        refine sw_iload_n (dX3_reset.at 13 rfl) rfl rfl ?_
        refine sw_iconst (dX3_reset.at 14 rfl) ?_
        refine sw_iastN 2 (dX3_reset.at 15 rfl) h3 h4 (by decide) (by decide) ?_
        refine sw_iinc (lo' := [some (vr (aa)), some (vi (3))]) (dX3_reset.at 16 rfl) rfl (by decide) rfl ?_
        refine sw_goto (tgt := 12) (dX3_reset.at 17 rfl) (by decide) ?_
        refine sw_iload_n (dX3_reset.at 8 rfl) rfl rfl ?_
        refine sw_iconst (dX3_reset.at 9 rfl) ?_
        refine sw_icmp_ge (tgt := 30) (dX3_reset.at 10 rfl) (by decide) (by decide) (by decide) (fun q => ?_) (fun q => ?_)
        · clear q
          exact sw_vret (dX3_reset.at 18 rfl) rfl (by decide) (by decide) hv
        · exact absurd q (by decide)

theorem c_X3_resetE {G : GG} {j n aa N4 : Nat} {sh : Nat → Sh} {c : Nat → Nat → Int} {post : Option AV → AM → Prop} {r0 r1 r2 : Option Nat} (h1 : aa < n) (h2 : sh aa = .inr (3, [r0, r1, r2, some N4, none, none])) (h3 : N4 < n) (h4 : sh N4 = .inl (0, 3)) (K : post none (sh, n, (up2 (up2 (up2 (up2 (up2 c aa 4 0) aa 5 0) N4 0 (-1)) N4 1 (-1)) N4 2 (-1)))) : SM G (j + 1) mX3_reset [vr aa] (sh, n, c) 0 0 post := by
  refine sm_of wX3_reset rfl (Nat.le_of_ble_eq_true rfl) ?_
  exact g_X3_resetE h1 h2 h3 h4 K

set_option maxHeartbeats 8000000 in
theorem c_X3_init {G : GG} {j n a : Nat} {sh : Nat → Sh} {c : Nat → Nat → Int} {post : Option AV → AM → Prop} (ha : a < n) (hsh : sh a = .inr (3, List.replicate 6 none)) (K : post none ((upS (upS (upS (upS (upS (upS (upS (upS sh (n) (.inl (3, 30))) a (.inr (3, ((List.replicate 6 none).set 0 (some (n)))))) (n + 1) (.inl (3, 90))) a (.inr (3, (((List.replicate 6 none).set 0 (some (n))).set 1 (some (n + 1)))))) (n + 1 + 1) (.inl (3, 3))) a (.inr (3, ((((List.replicate 6 none).set 0 (some (n))).set 1 (some (n + 1))).set 2 (some (n + 1 + 1)))))) (n + 1 + 1 + 1) (.inl (0, 3))) a (.inr (3, (((((List.replicate 6 none).set 0 (some (n))).set 1 (some (n + 1))).set 2 (some (n + 1 + 1))).set 3 (some (n + 1 + 1 + 1)))))), n + 1 + 1 + 1 + 1, (up2 (up2 (up2 (up2 (up2 (upZ (upZ (upZ (upZ c (n)) (n + 1)) (n + 1 + 1)) (n + 1 + 1 + 1)) a 4 0) a 5 0) (n + 1 + 1 + 1) 0 (-1)) (n + 1 + 1 + 1) 1 (-1)) (n + 1 + 1 + 1) 2 (-1)))) : SM G (j + 2) mX3_init [vr a] (sh, n, c) 4 126 post := by
  refine sm_of wX3_init rfl (Nat.le_of_ble_eq_true rfl) ?_
  refine sw_aload_n (dX3_init.at 0 rfl) rfl rfl ?_
  refine sw_objInit (dX3_init.at 1 rfl) lk_X3_3 oi1 oi2 (Nat.le_of_ble_eq_true rfl) ?_
  refine sw_aload_n (dX3_init.at 2 rfl) rfl rfl ?_
  refine sw_bipush (dX3_init.at 3 rfl) (by decide) ?_
  refine sw_newL (len := 30) (dX3_init.at 4 rfl) rfl (by decide) (Nat.le_of_ble_eq_true rfl) (Nat.le_of_ble_eq_true rfl) ?_
  refine sw_putR (dX3_init.at 5 rfl) fp_X3_9 (fun _ => ⟨rfl, _, rfl, rfl⟩) (Or.inr ⟨_, rfl⟩) (by omega) ((upS_ne (by omega)).trans hsh) rfl (by simp) ?_
  refine sw_aload_n (dX3_init.at 6 rfl) rfl rfl ?_
  refine sw_bipush (dX3_init.at 7 rfl) (by decide) ?_
  refine sw_newL (len := 90) (dX3_init.at 8 rfl) rfl (by decide) (Nat.le_of_ble_eq_true rfl) (Nat.le_of_ble_eq_true rfl) ?_
  refine sw_putR (dX3_init.at 9 rfl) fp_X3_15 (fun _ => ⟨rfl, _, rfl, rfl⟩) (Or.inr ⟨_, rfl⟩) (by omega) ((upS_ne (by omega)).trans upS_eq) rfl (by simp) ?_
  refine sw_aload_n (dX3_init.at 10 rfl) rfl rfl ?_
  refine sw_iconst (dX3_init.at 11 rfl) ?_
  refine sw_newL (len := 3) (dX3_init.at 12 rfl) rfl (by decide) (Nat.le_of_ble_eq_true rfl) (Nat.le_of_ble_eq_true rfl) ?_
  refine sw_putR (dX3_init.at 13 rfl) fp_X3_18 (fun _ => ⟨rfl, _, rfl, rfl⟩) (Or.inr ⟨_, rfl⟩) (by omega) ((upS_ne (by omega)).trans upS_eq) rfl (by simp) ?_
  refine sw_aload_n (dX3_init.at 14 rfl) rfl rfl ?_
  refine sw_iconst (dX3_init.at 15 rfl) ?_
  refine sw_newI (len := 3) (dX3_init.at 16 rfl) rfl (by decide) (Nat.le_of_ble_eq_true rfl) (Nat.le_of_ble_eq_true rfl) ?_
  refine sw_putR (dX3_init.at 17 rfl) fp_X3_21 (fun _ => ⟨rfl, _, rfl, rfl⟩) (Or.inr ⟨_, rfl⟩) (by omega) ((upS_ne (by omega)).trans upS_eq) rfl (by simp) ?_
  refine sw_aload_n (dX3_init.at 18 rfl) rfl rfl ?_
  refine sw_callV (B' := (4, 126, 4, 126)) (As := []) (mc := 0) (ms := 0) (dX3_init.at 19 rfl) lk_X3_25 (show a < n + 1 + 1 + 1 + 1 by omega) upS_eq rfl rfl (Nat.le_of_ble_eq_true rfl) rfl (Nat.le_of_ble_eq_true rfl) (Nat.le_of_ble_eq_true rfl) ?_
  refine c_X3_resetE (N4 := n + 1 + 1 + 1) (by omega) upS_eq (by omega) ((upS_ne (by omega)).trans upS_eq) ?_
  exact sw_vret (dX3_init.at 20 rfl) rfl (Nat.le_of_ble_eq_true rfl) (Nat.le_of_ble_eq_true rfl) K

