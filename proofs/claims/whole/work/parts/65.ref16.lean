set_option maxHeartbeats 2000000 in
set_option maxRecDepth 20000 in
theorem g_X9_layer_30 {G : GG} {j nw nx gn : Nat} {g : Nat → Sh} {c : Nat → Nat → Int} {post : Option AV → AM → Prop} {x : Nat} {y : Nat} {n0 : Nat} {P : GD} {T2 : Nat} {z : Nat} {a : Nat} (hM : ML c P) (hV : GV P) (hC : GC P)  (hv : (z < 2147483648) ∧ (gN P < 2147483648) ∧ (((gN P ≤ z) → post (some (vi (((a : Nat) : Int)))) (S nw nx g, 78 + gn, c)) ∧ ((¬ (gN P ≤ z)) → (T2 < 9223372036854775808) ∧ (z < 64) ∧ ((((T2.testBit z) = false) → SW G (j + 5) mX9_layer 30 [some (vr (49)), some (vi (((x : Nat) : Int))), some (vi (((y : Nat) : Int))), some (vi (((n0 : Nat) : Int))), some (vl (((T2 : Nat) : Int))), none, some (vi (((a + 0 : Nat) : Int))), some (vi (((z + 1 : Nat) : Int)))] [] (S nw nx g, 78 + gn, c) B0 post) ∧ (((T2.testBit z) = true) → (z < gN P) ∧ ((x < gN P) ∧ ((-2147483648 ≤ ((gL P z : Nat) : Int) - ((gL P x : Nat) : Int) ∧ ((gL P z : Nat) : Int) - ((gL P x : Nat) : Int) < 2147483648) ∧ (n0 < 2147483648) ∧ (((((gL P z : Nat) : Int) - ((gL P x : Nat) : Int) ≠ ((n0 : Nat) : Int)) → SW G (j + 5) mX9_layer 30 [some (vr (49)), some (vi (((x : Nat) : Int))), some (vi (((y : Nat) : Int))), some (vi (((n0 : Nat) : Int))), some (vl (((T2 : Nat) : Int))), none, some (vi (((a + 0 : Nat) : Int))), some (vi (((z + 1 : Nat) : Int)))] [] (S nw nx g, 78 + gn, c) B0 post) ∧ ((((gL P z : Nat) : Int) - ((gL P x : Nat) : Int) = ((n0 : Nat) : Int)) → SW G (j + 5) mX9_layer 30 [some (vr (49)), some (vi (((x : Nat) : Int))), some (vi (((y : Nat) : Int))), some (vi (((n0 : Nat) : Int))), some (vl (((T2 : Nat) : Int))), none, some (vi (((a + 1 : Nat) : Int))), some (vi (((z + 1 : Nat) : Int)))] [] (S nw nx g, 78 + gn, c) B0 post))))))))) :
    SW G (j + 5) mX9_layer 30 [some (vr (49)), some (vi (((x : Nat) : Int))), some (vi (((y : Nat) : Int))), some (vi (((n0 : Nat) : Int))), some (vl (((T2 : Nat) : Int))), none, some (vi (((a : Nat) : Int))), some (vi (((z : Nat) : Int)))] [] (S nw nx g, 78 + gn, c) B0 post := by
  refine sw_iload (dX9_layer.at 18 rfl) rfl ?_
  refine sw_aload_n (dX9_layer.at 19 rfl) rfl rfl ?_
  refine sw_getIE (w := ((gN P : Nat) : Int)) (dX9_layer.at 20 rfl) fp_X9_196 (S_lt 49 (by decide)) (S_49 nw nx g) rfl hM.1.2.1 ?_
  refine sw_icmpN_ge z (gN P) (tgt := 83) (dX9_layer.at 21 rfl) (by decide) hv.1 hv.2.1 (fun q => ?_) (fun q => ?_)
  · replace hv := hv.2.2.1 q
    refine sw_iload (dX9_layer.at 45 rfl) rfl ?_
    exact sw_iret (dX9_layer.at 46 rfl) rfl (Nat.le_refl _) (Nat.le_refl _) hv
  · replace hv := hv.2.2.2 q
    refine sw_iload (dX9_layer.at 22 rfl) rfl ?_
    refine sw_lload (dX9_layer.at 23 rfl) rfl ?_
    refine sw_iload (dX9_layer.at 24 rfl) rfl ?_
    refine sw_callS (post' := post) (B' := B0) (As := [vl (((T2 : Nat) : Int)), vi (((z : Nat) : Int))]) (mc := 0) (ms := 0) (dX9_layer.at 25 rfl) lk_X9_240 rfl rfl (Nat.le_of_ble_eq_true rfl) rfl (Nat.le_refl _) (Nat.le_refl _) ?_
    refine c_X9_has (s := T2) (i := z) (j := j + 4) hv.1 hv.2.1 ?_
    replace hv := hv.2.2
    refine sw_if_eq (tgt := 73) (dX9_layer.at 26 rfl) (by decide) (bz_rng _) (fun q => ?_) (fun q => ?_)
    · replace hv := hv.1 (bz_0 q)
      refine sw_iconst (dX9_layer.at 40 rfl) ?_
      refine sw_iadd (dX9_layer.at 41 rfl) ?_
      refine sw_topI (y := ((a + 0 : Nat) : Int)) (by first | rfl | (congr 1)) ?_
      refine sw_istore (lo' := [some (vr (49)), some (vi (((x : Nat) : Int))), some (vi (((y : Nat) : Int))), some (vi (((n0 : Nat) : Int))), some (vl (((T2 : Nat) : Int))), none, some (vi (((a + 0 : Nat) : Int))), some (vi (((z : Nat) : Int)))]) (dX9_layer.at 42 rfl) (by decide) rfl ?_
      refine sw_iinc (lo' := [some (vr (49)), some (vi (((x : Nat) : Int))), some (vi (((y : Nat) : Int))), some (vi (((n0 : Nat) : Int))), some (vl (((T2 : Nat) : Int))), none, some (vi (((a + 0 : Nat) : Int))), some (vi (((z + 1 : Nat) : Int)))]) (dX9_layer.at 43 rfl) rfl (by decide) rfl ?_
      refine sw_goto (tgt := 30) (dX9_layer.at 44 rfl) (by decide) ?_
      exact hv
    · replace hv := hv.2 (bz_n0 q)
      refine sw_aload_n (dX9_layer.at 27 rfl) rfl rfl ?_
      refine sw_getR (dX9_layer.at 28 rfl) fp_X9_32 (S_lt 49 (by decide)) (S_49 nw nx g) rfl rfl ?_
      refine sw_iload (dX9_layer.at 29 rfl) rfl ?_
      refine sw_ialdN z (w := ((gL P z : Nat) : Int)) (dX9_layer.at 30 rfl) (S_lt 56 (by decide)) (S_56 nw nx g) (by decide) (GV_lt hV hv.1) (ML_L hM hv.1) ?_
      replace hv := hv.2
      refine sw_aload_n (dX9_layer.at 31 rfl) rfl rfl ?_
      refine sw_getR (dX9_layer.at 32 rfl) fp_X9_32 (S_lt 49 (by decide)) (S_49 nw nx g) rfl rfl ?_
      refine sw_iload_n (dX9_layer.at 33 rfl) rfl rfl ?_
      refine sw_ialdN x (w := ((gL P x : Nat) : Int)) (dX9_layer.at 34 rfl) (S_lt 56 (by decide)) (S_56 nw nx g) (by decide) (GV_lt hV hv.1) (ML_L hM hv.1) ?_
      replace hv := hv.2
      refine sw_isub (dX9_layer.at 35 rfl) ?_
      refine sw_iload_n (dX9_layer.at 36 rfl) rfl rfl ?_
      refine sw_icmp_ne (tgt := 73) (dX9_layer.at 37 rfl) (by decide) hv.1 (nrng hv.2.1) (fun q => ?_) (fun q => ?_)
      · replace hv := hv.2.2.1 q
        refine sw_iconst (dX9_layer.at 40 rfl) ?_
        refine sw_iadd (dX9_layer.at 41 rfl) ?_
        refine sw_topI (y := ((a + 0 : Nat) : Int)) (by first | rfl | (congr 1)) ?_
        refine sw_istore (lo' := [some (vr (49)), some (vi (((x : Nat) : Int))), some (vi (((y : Nat) : Int))), some (vi (((n0 : Nat) : Int))), some (vl (((T2 : Nat) : Int))), none, some (vi (((a + 0 : Nat) : Int))), some (vi (((z : Nat) : Int)))]) (dX9_layer.at 42 rfl) (by decide) rfl ?_
        refine sw_iinc (lo' := [some (vr (49)), some (vi (((x : Nat) : Int))), some (vi (((y : Nat) : Int))), some (vi (((n0 : Nat) : Int))), some (vl (((T2 : Nat) : Int))), none, some (vi (((a + 0 : Nat) : Int))), some (vi (((z + 1 : Nat) : Int)))]) (dX9_layer.at 43 rfl) rfl (by decide) rfl ?_
        refine sw_goto (tgt := 30) (dX9_layer.at 44 rfl) (by decide) ?_
        exact hv
      · replace hv := hv.2.2.2 q
        refine sw_iconst (dX9_layer.at 38 rfl) ?_
        refine sw_goto (tgt := 74) (dX9_layer.at 39 rfl) (by decide) ?_
        refine sw_iadd (dX9_layer.at 41 rfl) ?_
        refine sw_topI (y := ((a + 1 : Nat) : Int)) (by first | rfl | (congr 1)) ?_
        refine sw_istore (lo' := [some (vr (49)), some (vi (((x : Nat) : Int))), some (vi (((y : Nat) : Int))), some (vi (((n0 : Nat) : Int))), some (vl (((T2 : Nat) : Int))), none, some (vi (((a + 1 : Nat) : Int))), some (vi (((z : Nat) : Int)))]) (dX9_layer.at 42 rfl) (by decide) rfl ?_
        refine sw_iinc (lo' := [some (vr (49)), some (vi (((x : Nat) : Int))), some (vi (((y : Nat) : Int))), some (vi (((n0 : Nat) : Int))), some (vl (((T2 : Nat) : Int))), none, some (vi (((a + 1 : Nat) : Int))), some (vi (((z + 1 : Nat) : Int)))]) (dX9_layer.at 43 rfl) rfl (by decide) rfl ?_
        refine sw_goto (tgt := 30) (dX9_layer.at 44 rfl) (by decide) ?_
        exact hv

set_option maxHeartbeats 4000000 in
theorem lp_X9_layer_30 {G : GG} {j nw nx gn : Nat} {g : Nat → Sh} {c : Nat → Nat → Int} {post : Option AV → AM → Prop} {P : GD} {T2 : Nat} {x : Nat} {y : Nat} {n0 : Nat} (hM : ML c P) (hV : GV P) (hC : GC P) (hx : x < gN P) (h2 : T2 < 2 ^ 60) (hn : n0 < 2147483648) : ∀ (k : Nat) (z : Nat) (a : Nat), z + k = gN P → (post (some (vi (((a + cntD (fun z => T2.testBit z && decide ((gL P z : Int) - (gL P x : Int) = (n0 : Int))) k z : Nat) : Int)))) (S nw nx g, 78 + gn, c)) → SW G (j + 5) mX9_layer 30 [some (vr (49)), some (vi (((x : Nat) : Int))), some (vi (((y : Nat) : Int))), some (vi (((n0 : Nat) : Int))), some (vl (((T2 : Nat) : Int))), none, some (vi (((a : Nat) : Int))), some (vi (((z : Nat) : Int)))] [] (S nw nx g, 78 + gn, c) B0 post := by
  intro k
  induction k with
  | zero =>
    intro z a hrel  K
    have h60 := GV_N hV
    rw [cntD] at K
    refine g_X9_layer_30 hM hV hC ?_
    refine ⟨?_, ?_, ⟨fun q => ?_, fun q => ⟨?_, ?_, ⟨fun q => ?_, fun q => ⟨?_, ⟨?_, ⟨?_, ?_, ⟨fun q => ?_, fun q => ?_⟩⟩⟩⟩⟩⟩⟩⟩
    all_goals first | omega | exact K | (exfalso; omega)
  | succ k ih =>
    intro z a hrel  K
    have h60 := GV_N hV
    have h63 := lt63 h2
    have l1 := (hV.2.2.1 x hx).1
    have l2 := (hV.2.2.1 z (by omega)).1
    simp only [cntD, ← Nat.add_assoc] at K
    refine g_X9_layer_30 hM hV hC ?_
    refine ⟨?_, ?_, ⟨fun q => ?_, fun q => ⟨?_, ?_, ⟨fun q => ?_, fun q => ⟨?_, ⟨?_, ⟨?_, ?_, ⟨fun q => ?_, fun q => ?_⟩⟩⟩⟩⟩⟩⟩⟩
    all_goals first | omega | assumption | (exfalso; omega) | (simp only [*, Bool.true_and, Bool.false_and, decide_true, decide_false, if_true, Bool.false_eq_true, if_false, Nat.add_zero] at K; exact ih _ _ (by omega) K)

set_option maxHeartbeats 2000000 in
set_option maxRecDepth 20000 in
theorem g_X9_layer_0n {G : GG} {j nw nx gn : Nat} {g : Nat → Sh} {c : Nat → Nat → Int} {post : Option AV → AM → Prop} {x : Nat} {y : Nat} {n0 : Nat} {P : GD} {T : PT} (hM : ML c P) (hV : GV P) (hC : GC P) (hG : GP P T) (hR : RR P T c)  (hv : (x < gN P) ∧ (y < gN P) ∧ (∀ c_1 : Nat → Nat → Int, (SD c c_1 ∧ RD P T c_1) → (n0 < 2147483648) ∧ (((0 ≤ ((n0 : Nat) : Int)) → (x < gN P) ∧ (y < gN P) ∧ (SW G (j + 5) mX9_layer 30 [some (vr (49)), some (vi (((x : Nat) : Int))), some (vi (((y : Nat) : Int))), some (vi (((n0 : Nat) : Int))), some (vl (((bitsU (pBt P x y) (gN P) : Nat) : Int))), none, some (vi (0)), some (vi (0))] [] (S nw nx g, 78 + gn, c_1) B0 post)) ∧ ((¬ (0 ≤ ((n0 : Nat) : Int))) → post (some (vi ((-2)))) (S nw nx g, 78 + gn, c_1))))) :
    SW G (j + 5) mX9_layer 0 [some (vr (49)), some (vi (((x : Nat) : Int))), some (vi (((y : Nat) : Int))), some (vi (((n0 : Nat) : Int))), none, none, none, none] [] (S nw nx g, 78 + gn, c) B0 post := by
  refine sw_aload_n (dX9_layer.at 0 rfl) rfl rfl ?_
  refine sw_iload_n (dX9_layer.at 1 rfl) rfl rfl ?_
  refine sw_iload_n (dX9_layer.at 2 rfl) rfl rfl ?_
  refine sw_callV (B' := B0) (As := [vi (((x : Nat) : Int)), vi (((y : Nat) : Int))]) (mc := 0) (ms := 0) (dX9_layer.at 3 rfl) lk_X9_308 (S_lt 49 (by decide)) (S_49 nw nx g) rfl rfl (Nat.le_of_ble_eq_true rfl) rfl (Nat.le_refl _) (Nat.le_refl _) ?_
  refine c_X9_arePairY (x := x) (y := y) (j := j + 0) hM hV hC hG hR hv.1 hv.2.1 (fun c_1 h_1 => ?_)
  replace hv := hv.2.2 c_1 h_1
  refine sw_if_eq (tgt := 13) (dX9_layer.at 4 rfl) (by decide) (by decide) (fun q => ?_) (fun q => ?_)
  · exact absurd q (by decide)
  · clear q
    refine sw_iload_n (dX9_layer.at 5 rfl) rfl rfl ?_
    refine sw_if_ge (tgt := 16) (dX9_layer.at 6 rfl) (by decide) (nrng hv.1) (fun q => ?_) (fun q => ?_)
    · replace hv := hv.2.1 q
      refine sw_aload_n (dX9_layer.at 9 rfl) rfl rfl ?_
      refine sw_iload_n (dX9_layer.at 10 rfl) rfl rfl ?_
      refine sw_iload_n (dX9_layer.at 11 rfl) rfl rfl ?_
      refine sw_callV (B' := B0) (As := [vi (((x : Nat) : Int)), vi (((y : Nat) : Int))]) (mc := 0) (ms := 0) (dX9_layer.at 12 rfl) lk_X9_314 (S_lt 49 (by decide)) (S_49 nw nx g) rfl rfl (Nat.le_of_ble_eq_true rfl) rfl (Nat.le_refl _) (Nat.le_refl _) ?_
      refine c_X9_between (T := T) (x := x) (y := y) (j := j + 3) (ML_SD hM (SD_tr SD_rf h_1.1)) hV hC h_1.2.2 hv.1 hv.2.1 ?_
      replace hv := hv.2.2
      refine sw_lstore (lo' := [some (vr (49)), some (vi (((x : Nat) : Int))), some (vi (((y : Nat) : Int))), some (vi (((n0 : Nat) : Int))), some (vl (((bitsU (pBt P x y) (gN P) : Nat) : Int))), none, none, none]) (dX9_layer.at 13 rfl) (by decide) rfl ?_
      refine sw_iconst (dX9_layer.at 14 rfl) ?_
      refine sw_istore (lo' := [some (vr (49)), some (vi (((x : Nat) : Int))), some (vi (((y : Nat) : Int))), some (vi (((n0 : Nat) : Int))), some (vl (((bitsU (pBt P x y) (gN P) : Nat) : Int))), none, some (vi (0)), none]) (dX9_layer.at 15 rfl) (by decide) rfl ?_
      refine sw_iconst (dX9_layer.at 16 rfl) ?_
      refine sw_istore (lo' := [some (vr (49)), some (vi (((x : Nat) : Int))), some (vi (((y : Nat) : Int))), some (vi (((n0 : Nat) : Int))), some (vl (((bitsU (pBt P x y) (gN P) : Nat) : Int))), none, some (vi (0)), some (vi (0))]) (dX9_layer.at 17 rfl) (by decide) rfl ?_
      exact hv
    · replace hv := hv.2.2 q
      refine sw_bipush (dX9_layer.at 7 rfl) (by decide) ?_
      exact sw_iret (dX9_layer.at 8 rfl) rfl (Nat.le_refl _) (Nat.le_refl _) hv

set_option maxHeartbeats 2000000 in
set_option maxRecDepth 20000 in
theorem g_X9_layer_0 {G : GG} {j nw nx gn : Nat} {g : Nat → Sh} {c : Nat → Nat → Int} {post : Option AV → AM → Prop} {x : Int} {y : Int} {n0 : Int} {P : GD} {T : PT} (hM : ML c P) (hV : GV P) (hC : GC P) (hG : GP P T) (hR : RR P T c)  (hv : (-2147483648 ≤ x ∧ x < 2147483648) ∧ (-2147483648 ≤ y ∧ y < 2147483648) ∧ (∀ c_1 : Nat → Nat → Int, (SD c c_1 ∧ RR P T c_1) → (((decide ((0 ≤ x ∧ x < (gN P : Int)) ∧ 0 ≤ y ∧ y < (gN P : Int))) = false) → post (some (vi ((-2)))) (S nw nx g, 78 + gn, c_1)) ∧ (((decide ((0 ≤ x ∧ x < (gN P : Int)) ∧ 0 ≤ y ∧ y < (gN P : Int))) = true) → (-2147483648 ≤ n0 ∧ n0 < 2147483648) ∧ (((0 ≤ n0) → SW G (j + 5) mX9_layer 19 [some (vr (49)), some (vi (x)), some (vi (y)), some (vi (n0)), none, none, none, none] [vi (y), vi (x), vr (49)] (S nw nx g, 78 + gn, c_1) B0 post) ∧ ((¬ (0 ≤ n0)) → post (some (vi ((-2)))) (S nw nx g, 78 + gn, c_1)))))) :
    SW G (j + 5) mX9_layer 0 [some (vr (49)), some (vi (x)), some (vi (y)), some (vi (n0)), none, none, none, none] [] (S nw nx g, 78 + gn, c) B0 post := by
  refine sw_aload_n (dX9_layer.at 0 rfl) rfl rfl ?_
  refine sw_iload_n (dX9_layer.at 1 rfl) rfl rfl ?_
  refine sw_iload_n (dX9_layer.at 2 rfl) rfl rfl ?_
  refine sw_callV (B' := B0) (As := [vi (x), vi (y)]) (mc := 0) (ms := 0) (dX9_layer.at 3 rfl) lk_X9_308 (S_lt 49 (by decide)) (S_49 nw nx g) rfl rfl (Nat.le_of_ble_eq_true rfl) rfl (Nat.le_refl _) (Nat.le_refl _) ?_
  refine c_X9_arePairG (x := x) (y := y) (j := j + 0) hM hV hC hG hR hv.1 hv.2.1 (fun c_1 h_1 => ?_)
  replace hv := hv.2.2 c_1 h_1
  refine sw_if_eq (tgt := 13) (dX9_layer.at 4 rfl) (by decide) (bz_rng _) (fun q => ?_) (fun q => ?_)
  · replace hv := hv.1 (bz_0 q)
    refine sw_bipush (dX9_layer.at 7 rfl) (by decide) ?_
    exact sw_iret (dX9_layer.at 8 rfl) rfl (Nat.le_refl _) (Nat.le_refl _) hv
  · replace hv := hv.2 (bz_n0 q)
    refine sw_iload_n (dX9_layer.at 5 rfl) rfl rfl ?_
    refine sw_if_ge (tgt := 16) (dX9_layer.at 6 rfl) (by decide) hv.1 (fun q => ?_) (fun q => ?_)
    · replace hv := hv.2.1 q
      refine sw_aload_n (dX9_layer.at 9 rfl) rfl rfl ?_
      refine sw_iload_n (dX9_layer.at 10 rfl) rfl rfl ?_
      refine sw_iload_n (dX9_layer.at 11 rfl) rfl rfl ?_
      exact hv
    · replace hv := hv.2.2 q
      refine sw_bipush (dX9_layer.at 7 rfl) (by decide) ?_
      exact sw_iret (dX9_layer.at 8 rfl) rfl (Nat.le_refl _) (Nat.le_refl _) hv

set_option maxHeartbeats 4000000 in
theorem c_X9_layer {G : GG} {j nw nx gn : Nat} {g : Nat → Sh} {c : Nat → Nat → Int} {post : Option AV → AM → Prop} {P : GD} {T : PT} {x y n0 : Int} (hM : ML c P) (hV : GV P) (hC : GC P) (hG : GP P T) (hR : RR P T c) (p1 : -2147483648 ≤ x ∧ x < 2147483648) (p2 : -2147483648 ≤ y ∧ y < 2147483648) (p3 : -2147483648 ≤ n0 ∧ n0 < 2147483648) (K : ∀ c2 : Nat → Nat → Int, (SD c c2 ∧ RR P T c2) → post (some (vi (q_layer P x y n0))) (S nw nx g, 78 + gn, c2)) : SM G (j + 6) mX9_layer [vr (49), vi (x), vi (y), vi (n0)] (S nw nx g, 78 + gn, c) 0 0 post := by
  refine sm_of wX9_layer rfl (Nat.le_of_ble_eq_true rfl) ?_
  have hN60 := GV_N hV
  have hR5 := GV_R hV
  by_cases hv : ((0 ≤ x ∧ x < (gN P : Int)) ∧ 0 ≤ y ∧ y < (gN P : Int)) ∧ 0 ≤ n0
  · obtain ⟨x, rfl⟩ : ∃ n : Nat, x = (n : Int) := ⟨x.toNat, by omega⟩
    obtain ⟨y, rfl⟩ : ∃ n : Nat, y = (n : Int) := ⟨y.toNat, by omega⟩
    obtain ⟨n0, rfl⟩ : ∃ n : Nat, n0 = (n : Int) := ⟨n0.toNat, by omega⟩
    have e : q_layer P ((x : Nat) : Int) ((y : Nat) : Int) ((n0 : Nat) : Int) = ((cntU (pLr P x y n0) (gN P) : Nat) : Int) := by
      rw [q_layer, if_pos hv]
      simp only [Int.toNat_natCast]
    rw [e] at K
    have K1 : ∀ (z : Int) (c2 : Nat → Nat → Int), ((SD c c2 ∧ RR P T c2)) → z = (((cntU (pLr P x y n0) (gN P) : Nat) : Int)) → post (some (vi z)) (S nw nx g, 78 + gn, c2) := fun z c2 h e9 => e9 ▸ K c2 h
    have hx : x < gN P := by omega
    have fx := hV.2.2.1 x hx
    have hy : y < gN P := by omega
    have fy := hV.2.2.1 y hy
    have e9 : cntU (pLr P x y n0) (gN P) = 0 + cntD (fun z => (bitsU (pBt P x y) (gN P)).testBit z && decide ((gL P z : Int) - (gL P x : Int) = (n0 : Int))) (gN P) 0 := by rw [Nat.zero_add, cntD_U]; rfl
    rw [e9] at K
    refine g_X9_layer_0n hM hV hC hG hR ?_
    refine ⟨?_, ?_, fun c_1 h_1 => ⟨?_, ⟨fun q => ⟨?_, ?_, ?_⟩, fun q => ?_⟩⟩⟩
    all_goals first | omega | assumption | (exfalso; simp only [decide_eq_true_eq, decide_eq_false_iff_not] at *; omega) | exact lp_X9_layer_30 (ML_SD hM h_1.1) hV hC hx (bitsU_63 hN60) (by omega) (gN P) 0 0 (by omega) (K c_1 ⟨h_1.1, Or.inr h_1.2⟩) | exact K _ (by first | exact ⟨SD_rf, hR⟩ | exact ⟨h_1.1, Or.inr h_1.2⟩ | assumption | exact ⟨SD_tr h_1.1 (SD_SC h_2), Or.inr (RD_SC h_1.2 h_2)⟩ | exact ⟨SD_tr h_1.1 (SD_SC (SC_tr h_2 h_3)), Or.inr (RD_SC h_1.2 (SC_tr h_2 h_3))⟩) | (refine K1 _ _ (by first | exact ⟨SD_rf, hR⟩ | exact ⟨h_1.1, Or.inr h_1.2⟩ | assumption | exact ⟨SD_tr h_1.1 (SD_SC h_2), Or.inr (RD_SC h_1.2 h_2)⟩ | exact ⟨SD_tr h_1.1 (SD_SC (SC_tr h_2 h_3)), Or.inr (RD_SC h_1.2 (SC_tr h_2 h_3))⟩) ?_; first | rfl | (simp [bz, *]; done) | (split <;> first | rfl | omega))
  · have e : q_layer P x y n0 = (-2) := by rw [q_layer, if_neg hv]
    rw [e] at K
    have K1 : ∀ (z : Int) (c2 : Nat → Nat → Int), ((SD c c2 ∧ RR P T c2)) → z = ((-2)) → post (some (vi z)) (S nw nx g, 78 + gn, c2) := fun z c2 h e9 => e9 ▸ K c2 h
    refine g_X9_layer_0 hM hV hC hG hR ?_
    refine ⟨?_, ?_, fun c_1 h_1 => ⟨fun q => ?_, fun q => ⟨?_, ⟨fun q => ?_, fun q => ?_⟩⟩⟩⟩
    all_goals first | omega | assumption | (exfalso; simp only [decide_eq_true_eq, decide_eq_false_iff_not] at *; omega) | exact K _ (by first | exact ⟨SD_rf, hR⟩ | exact ⟨h_1.1, Or.inr h_1.2⟩ | assumption | exact ⟨SD_tr h_1.1 (SD_SC h_2), Or.inr (RD_SC h_1.2 h_2)⟩ | exact ⟨SD_tr h_1.1 (SD_SC (SC_tr h_2 h_3)), Or.inr (RD_SC h_1.2 (SC_tr h_2 h_3))⟩) | (refine K1 _ _ (by first | exact ⟨SD_rf, hR⟩ | exact ⟨h_1.1, Or.inr h_1.2⟩ | assumption | exact ⟨SD_tr h_1.1 (SD_SC h_2), Or.inr (RD_SC h_1.2 h_2)⟩ | exact ⟨SD_tr h_1.1 (SD_SC (SC_tr h_2 h_3)), Or.inr (RD_SC h_1.2 (SC_tr h_2 h_3))⟩) ?_; first | rfl | (simp [bz, *]; done) | (split <;> first | rfl | omega))

set_option maxHeartbeats 2000000 in
set_option maxRecDepth 20000 in
theorem g_X9_euler_26 {G : GG} {j nw nx gn : Nat} {g : Nat → Sh} {c : Nat → Nat → Int} {post : Option AV → AM → Prop} {x : Nat} {y : Nat} {P : GD} {T2 : Nat} {z : Nat} {a : Int} (hM : ML c P) (hV : GV P) (hC : GC P)  (hv : (z < 2147483648) ∧ (gN P < 2147483648) ∧ (((gN P ≤ z) → post (some (vi (a))) (S nw nx g, 78 + gn, c)) ∧ ((¬ (gN P ≤ z)) → (T2 < 9223372036854775808) ∧ (z < 64) ∧ ((((T2.testBit z) = true) → (z < gN P) ∧ ((gL P z < 2147483648) ∧ (((gL P z) % 2 < 2147483648) ∧ ((((gL P z) % 2 ≠ 0) → SW G (j + 5) mX9_euler 26 [some (vr (49)), some (vi (((x : Nat) : Int))), some (vi (((y : Nat) : Int))), some (vl (((T2 : Nat) : Int))), none, some (vi (a + (-1))), some (vi (((z + 1 : Nat) : Int)))] [] (S nw nx g, 78 + gn, c) B0 post) ∧ (((gL P z) % 2 = 0) → SW G (j + 5) mX9_euler 26 [some (vr (49)), some (vi (((x : Nat) : Int))), some (vi (((y : Nat) : Int))), some (vl (((T2 : Nat) : Int))), none, some (vi (a + 1)), some (vi (((z + 1 : Nat) : Int)))] [] (S nw nx g, 78 + gn, c) B0 post))))) ∧ (((T2.testBit z) = false) → SW G (j + 5) mX9_euler 26 [some (vr (49)), some (vi (((x : Nat) : Int))), some (vi (((y : Nat) : Int))), some (vl (((T2 : Nat) : Int))), none, some (vi (a + 0)), some (vi (((z + 1 : Nat) : Int)))] [] (S nw nx g, 78 + gn, c) B0 post))))) :
    SW G (j + 5) mX9_euler 26 [some (vr (49)), some (vi (((x : Nat) : Int))), some (vi (((y : Nat) : Int))), some (vl (((T2 : Nat) : Int))), none, some (vi (a)), some (vi (((z : Nat) : Int)))] [] (S nw nx g, 78 + gn, c) B0 post := by
  refine sw_iload (dX9_euler.at 16 rfl) rfl ?_
  refine sw_aload_n (dX9_euler.at 17 rfl) rfl rfl ?_
  refine sw_getIE (w := ((gN P : Nat) : Int)) (dX9_euler.at 18 rfl) fp_X9_196 (S_lt 49 (by decide)) (S_49 nw nx g) rfl hM.1.2.1 ?_
  refine sw_icmpN_ge z (gN P) (tgt := 76) (dX9_euler.at 19 rfl) (by decide) hv.1 hv.2.1 (fun q => ?_) (fun q => ?_)
  · replace hv := hv.2.2.1 q
    refine sw_iload (dX9_euler.at 41 rfl) rfl ?_
    exact sw_iret (dX9_euler.at 42 rfl) rfl (Nat.le_refl _) (Nat.le_refl _) hv
  · replace hv := hv.2.2.2 q
    refine sw_iload (dX9_euler.at 20 rfl) rfl ?_
    refine sw_lload_n (dX9_euler.at 21 rfl) rfl rfl ?_
    refine sw_iload (dX9_euler.at 22 rfl) rfl ?_
    refine sw_callS (post' := post) (B' := B0) (As := [vl (((T2 : Nat) : Int)), vi (((z : Nat) : Int))]) (mc := 0) (ms := 0) (dX9_euler.at 23 rfl) lk_X9_240 rfl rfl (Nat.le_of_ble_eq_true rfl) rfl (Nat.le_refl _) (Nat.le_refl _) ?_
    refine c_X9_has (s := T2) (i := z) (j := j + 4) hv.1 hv.2.1 ?_
    replace hv := hv.2.2
    refine sw_if_ne (tgt := 50) (dX9_euler.at 24 rfl) (by decide) (bz_rng _) (fun q => ?_) (fun q => ?_)
    · replace hv := hv.1 (bz_1 q)
      refine sw_aload_n (dX9_euler.at 27 rfl) rfl rfl ?_
      refine sw_getR (dX9_euler.at 28 rfl) fp_X9_32 (S_lt 49 (by decide)) (S_49 nw nx g) rfl rfl ?_
      refine sw_iload (dX9_euler.at 29 rfl) rfl ?_
      refine sw_ialdN z (w := ((gL P z : Nat) : Int)) (dX9_euler.at 30 rfl) (S_lt 56 (by decide)) (S_56 nw nx g) (by decide) (GV_lt hV hv.1) (ML_L hM hv.1) ?_
      replace hv := hv.2
      refine sw_iconst (dX9_euler.at 31 rfl) ?_
      refine sw_iremN (gL P z) 2 (dX9_euler.at 32 rfl) (by decide) (by decide) hv.1 ?_
      replace hv := hv.2
      refine sw_ifN_ne ((gL P z) % 2) (tgt := 66) (dX9_euler.at 33 rfl) (by decide) hv.1 (fun q => ?_) (fun q => ?_)
      · replace hv := hv.2.1 q
        refine sw_iconst (dX9_euler.at 36 rfl) ?_
        refine sw_iadd (dX9_euler.at 37 rfl) ?_
        refine sw_istore (lo' := [some (vr (49)), some (vi (((x : Nat) : Int))), some (vi (((y : Nat) : Int))), some (vl (((T2 : Nat) : Int))), none, some (vi (a + (-1))), some (vi (((z : Nat) : Int)))]) (dX9_euler.at 38 rfl) (by decide) rfl ?_
        refine sw_iinc (lo' := [some (vr (49)), some (vi (((x : Nat) : Int))), some (vi (((y : Nat) : Int))), some (vl (((T2 : Nat) : Int))), none, some (vi (a + (-1))), some (vi (((z + 1 : Nat) : Int)))]) (dX9_euler.at 39 rfl) rfl (by decide) rfl ?_
        refine sw_goto (tgt := 26) (dX9_euler.at 40 rfl) (by decide) ?_
        exact hv
      · replace hv := hv.2.2 q
        refine sw_iconst (dX9_euler.at 34 rfl) ?_
        refine sw_goto (tgt := 67) (dX9_euler.at 35 rfl) (by decide) ?_
        refine sw_iadd (dX9_euler.at 37 rfl) ?_
        refine sw_istore (lo' := [some (vr (49)), some (vi (((x : Nat) : Int))), some (vi (((y : Nat) : Int))), some (vl (((T2 : Nat) : Int))), none, some (vi (a + 1)), some (vi (((z : Nat) : Int)))]) (dX9_euler.at 38 rfl) (by decide) rfl ?_
        refine sw_iinc (lo' := [some (vr (49)), some (vi (((x : Nat) : Int))), some (vi (((y : Nat) : Int))), some (vl (((T2 : Nat) : Int))), none, some (vi (a + 1)), some (vi (((z + 1 : Nat) : Int)))]) (dX9_euler.at 39 rfl) rfl (by decide) rfl ?_
        refine sw_goto (tgt := 26) (dX9_euler.at 40 rfl) (by decide) ?_
        exact hv
    · replace hv := hv.2 (bz_n1 q)
      refine sw_iconst (dX9_euler.at 25 rfl) ?_
      refine sw_goto (tgt := 67) (dX9_euler.at 26 rfl) (by decide) ?_
      refine sw_iadd (dX9_euler.at 37 rfl) ?_
      refine sw_istore (lo' := [some (vr (49)), some (vi (((x : Nat) : Int))), some (vi (((y : Nat) : Int))), some (vl (((T2 : Nat) : Int))), none, some (vi (a + 0)), some (vi (((z : Nat) : Int)))]) (dX9_euler.at 38 rfl) (by decide) rfl ?_
      refine sw_iinc (lo' := [some (vr (49)), some (vi (((x : Nat) : Int))), some (vi (((y : Nat) : Int))), some (vl (((T2 : Nat) : Int))), none, some (vi (a + 0)), some (vi (((z + 1 : Nat) : Int)))]) (dX9_euler.at 39 rfl) rfl (by decide) rfl ?_
      refine sw_goto (tgt := 26) (dX9_euler.at 40 rfl) (by decide) ?_
      exact hv

set_option maxHeartbeats 4000000 in
theorem lp_X9_euler_26 {G : GG} {j nw nx gn : Nat} {g : Nat → Sh} {c : Nat → Nat → Int} {post : Option AV → AM → Prop} {P : GD} {T2 : Nat} {x : Nat} {y : Nat} (hM : ML c P) (hV : GV P) (hC : GC P) (h2 : T2 < 2 ^ 60) : ∀ (k : Nat) (z : Nat) (a : Int), z + k = gN P → (post (some (vi (euF P T2 k z a))) (S nw nx g, 78 + gn, c)) → SW G (j + 5) mX9_euler 26 [some (vr (49)), some (vi (((x : Nat) : Int))), some (vi (((y : Nat) : Int))), some (vl (((T2 : Nat) : Int))), none, some (vi (a)), some (vi (((z : Nat) : Int)))] [] (S nw nx g, 78 + gn, c) B0 post := by
  intro k
  induction k with
  | zero =>
    intro z a hrel  K
    have h60 := GV_N hV
    rw [euF] at K
    refine g_X9_euler_26 hM hV hC ?_
    refine ⟨?_, ?_, ⟨fun q => ?_, fun q => ⟨?_, ?_, ⟨fun q => ⟨?_, ⟨?_, ⟨?_, ⟨fun q => ?_, fun q => ?_⟩⟩⟩⟩, fun q => ?_⟩⟩⟩⟩
    all_goals first | omega | exact K | (exfalso; omega)
  | succ k ih =>
    intro z a hrel  K
    have h60 := GV_N hV
    have h63 := lt63 h2
    have l2 := (hV.2.2.1 z (by omega)).1
    rw [euF] at K
    refine g_X9_euler_26 hM hV hC ?_
    refine ⟨?_, ?_, ⟨fun q => ?_, fun q => ⟨?_, ?_, ⟨fun q => ⟨?_, ⟨?_, ⟨?_, ⟨fun q => ?_, fun q => ?_⟩⟩⟩⟩, fun q => ?_⟩⟩⟩⟩
    all_goals first | omega | assumption | (exfalso; omega) | (rw [if_neg (by rw [‹T2.testBit z = false›]; decide)] at K; rw [Int.add_zero]; exact ih _ _ (by omega) K) | (rw [if_pos (by assumption), if_pos (by omega)] at K; exact ih _ _ (by omega) K) | (rw [if_pos (by assumption), if_neg (by omega)] at K; exact ih _ _ (by omega) K)

set_option maxHeartbeats 2000000 in
set_option maxRecDepth 20000 in
theorem g_X9_euler_0n {G : GG} {j nw nx gn : Nat} {g : Nat → Sh} {c : Nat → Nat → Int} {post : Option AV → AM → Prop} {x : Nat} {y : Nat} {P : GD} {T : PT} (hM : ML c P) (hV : GV P) (hC : GC P) (hG : GP P T) (hR : RR P T c)  (hv : (x < gN P) ∧ (y < gN P) ∧ (∀ c_1 : Nat → Nat → Int, (SD c c_1 ∧ RD P T c_1) → (x < gN P) ∧ (y < gN P) ∧ (SW G (j + 5) mX9_euler 26 [some (vr (49)), some (vi (((x : Nat) : Int))), some (vi (((y : Nat) : Int))), some (vl (((bitsU (pBt P x y) (gN P) : Nat) : Int))), none, some (vi (0)), some (vi (0))] [] (S nw nx g, 78 + gn, c_1) B0 post))) :
    SW G (j + 5) mX9_euler 0 [some (vr (49)), some (vi (((x : Nat) : Int))), some (vi (((y : Nat) : Int))), none, none, none, none] [] (S nw nx g, 78 + gn, c) B0 post := by
  refine sw_aload_n (dX9_euler.at 0 rfl) rfl rfl ?_
  refine sw_iload_n (dX9_euler.at 1 rfl) rfl rfl ?_
  refine sw_iload_n (dX9_euler.at 2 rfl) rfl rfl ?_
  refine sw_callV (B' := B0) (As := [vi (((x : Nat) : Int)), vi (((y : Nat) : Int))]) (mc := 0) (ms := 0) (dX9_euler.at 3 rfl) lk_X9_308 (S_lt 49 (by decide)) (S_49 nw nx g) rfl rfl (Nat.le_of_ble_eq_true rfl) rfl (Nat.le_refl _) (Nat.le_refl _) ?_
  refine c_X9_arePairY (x := x) (y := y) (j := j + 0) hM hV hC hG hR hv.1 hv.2.1 (fun c_1 h_1 => ?_)
  replace hv := hv.2.2 c_1 h_1
  refine sw_if_ne (tgt := 13) (dX9_euler.at 4 rfl) (by decide) (by decide) (fun q => ?_) (fun q => ?_)
  · clear q
    refine sw_aload_n (dX9_euler.at 7 rfl) rfl rfl ?_
    refine sw_iload_n (dX9_euler.at 8 rfl) rfl rfl ?_
    refine sw_iload_n (dX9_euler.at 9 rfl) rfl rfl ?_
    refine sw_callV (B' := B0) (As := [vi (((x : Nat) : Int)), vi (((y : Nat) : Int))]) (mc := 0) (ms := 0) (dX9_euler.at 10 rfl) lk_X9_314 (S_lt 49 (by decide)) (S_49 nw nx g) rfl rfl (Nat.le_of_ble_eq_true rfl) rfl (Nat.le_refl _) (Nat.le_refl _) ?_
    refine c_X9_between (T := T) (x := x) (y := y) (j := j + 3) (ML_SD hM (SD_tr SD_rf h_1.1)) hV hC h_1.2.2 hv.1 hv.2.1 ?_
    replace hv := hv.2.2
    refine sw_lstore_n (lo' := [some (vr (49)), some (vi (((x : Nat) : Int))), some (vi (((y : Nat) : Int))), some (vl (((bitsU (pBt P x y) (gN P) : Nat) : Int))), none, none, none]) (dX9_euler.at 11 rfl) rfl (by decide) rfl ?_
    refine sw_iconst (dX9_euler.at 12 rfl) ?_
    refine sw_istore (lo' := [some (vr (49)), some (vi (((x : Nat) : Int))), some (vi (((y : Nat) : Int))), some (vl (((bitsU (pBt P x y) (gN P) : Nat) : Int))), none, some (vi (0)), none]) (dX9_euler.at 13 rfl) (by decide) rfl ?_
    refine sw_iconst (dX9_euler.at 14 rfl) ?_
    refine sw_istore (lo' := [some (vr (49)), some (vi (((x : Nat) : Int))), some (vi (((y : Nat) : Int))), some (vl (((bitsU (pBt P x y) (gN P) : Nat) : Int))), none, some (vi (0)), some (vi (0))]) (dX9_euler.at 15 rfl) (by decide) rfl ?_
    exact hv
  · exact absurd q (by decide)

set_option maxHeartbeats 2000000 in
set_option maxRecDepth 20000 in
theorem g_X9_euler_0 {G : GG} {j nw nx gn : Nat} {g : Nat → Sh} {c : Nat → Nat → Int} {post : Option AV → AM → Prop} {x : Int} {y : Int} {P : GD} {T : PT} (hM : ML c P) (hV : GV P) (hC : GC P) (hG : GP P T) (hR : RR P T c)  (hv : (-2147483648 ≤ x ∧ x < 2147483648) ∧ (-2147483648 ≤ y ∧ y < 2147483648) ∧ (∀ c_1 : Nat → Nat → Int, (SD c c_1 ∧ RR P T c_1) → (((decide ((0 ≤ x ∧ x < (gN P : Int)) ∧ 0 ≤ y ∧ y < (gN P : Int))) = true) → SW G (j + 5) mX9_euler 16 [some (vr (49)), some (vi (x)), some (vi (y)), none, none, none, none] [vi (y), vi (x), vr (49)] (S nw nx g, 78 + gn, c_1) B0 post) ∧ (((decide ((0 ≤ x ∧ x < (gN P : Int)) ∧ 0 ≤ y ∧ y < (gN P : Int))) = false) → post (some (vi ((-2000)))) (S nw nx g, 78 + gn, c_1)))) :
    SW G (j + 5) mX9_euler 0 [some (vr (49)), some (vi (x)), some (vi (y)), none, none, none, none] [] (S nw nx g, 78 + gn, c) B0 post := by
  refine sw_aload_n (dX9_euler.at 0 rfl) rfl rfl ?_
  refine sw_iload_n (dX9_euler.at 1 rfl) rfl rfl ?_
  refine sw_iload_n (dX9_euler.at 2 rfl) rfl rfl ?_
  refine sw_callV (B' := B0) (As := [vi (x), vi (y)]) (mc := 0) (ms := 0) (dX9_euler.at 3 rfl) lk_X9_308 (S_lt 49 (by decide)) (S_49 nw nx g) rfl rfl (Nat.le_of_ble_eq_true rfl) rfl (Nat.le_refl _) (Nat.le_refl _) ?_
  refine c_X9_arePairG (x := x) (y := y) (j := j + 0) hM hV hC hG hR hv.1 hv.2.1 (fun c_1 h_1 => ?_)
  replace hv := hv.2.2 c_1 h_1
  refine sw_if_ne (tgt := 13) (dX9_euler.at 4 rfl) (by decide) (bz_rng _) (fun q => ?_) (fun q => ?_)
  · replace hv := hv.1 (bz_1 q)
    refine sw_aload_n (dX9_euler.at 7 rfl) rfl rfl ?_
    refine sw_iload_n (dX9_euler.at 8 rfl) rfl rfl ?_
    refine sw_iload_n (dX9_euler.at 9 rfl) rfl rfl ?_
    exact hv
  · replace hv := hv.2 (bz_n1 q)
    refine sw_sipush (dX9_euler.at 5 rfl) (by decide) ?_
    exact sw_iret (dX9_euler.at 6 rfl) rfl (Nat.le_refl _) (Nat.le_refl _) hv

set_option maxHeartbeats 4000000 in
theorem c_X9_euler {G : GG} {j nw nx gn : Nat} {g : Nat → Sh} {c : Nat → Nat → Int} {post : Option AV → AM → Prop} {P : GD} {T : PT} {x y : Int} (hM : ML c P) (hV : GV P) (hC : GC P) (hG : GP P T) (hR : RR P T c) (p1 : -2147483648 ≤ x ∧ x < 2147483648) (p2 : -2147483648 ≤ y ∧ y < 2147483648) (K : ∀ c2 : Nat → Nat → Int, (SD c c2 ∧ RR P T c2) → post (some (vi (q_euler P x y))) (S nw nx g, 78 + gn, c2)) : SM G (j + 6) mX9_euler [vr (49), vi (x), vi (y)] (S nw nx g, 78 + gn, c) 0 0 post := by
  refine sm_of wX9_euler rfl (Nat.le_of_ble_eq_true rfl) ?_
  have hN60 := GV_N hV
  have hR5 := GV_R hV
  by_cases hv : (0 ≤ x ∧ x < (gN P : Int)) ∧ 0 ≤ y ∧ y < (gN P : Int)
  · obtain ⟨x, rfl⟩ : ∃ n : Nat, x = (n : Int) := ⟨x.toNat, by omega⟩
    obtain ⟨y, rfl⟩ : ∃ n : Nat, y = (n : Int) := ⟨y.toNat, by omega⟩
    have e : q_euler P ((x : Nat) : Int) ((y : Nat) : Int) = euF P (bitsU (pBt P x y) (gN P)) (gN P) 0 0 := by
      rw [q_euler, if_pos hv]
      simp only [Int.toNat_natCast]
    rw [e] at K
    have K1 : ∀ (z : Int) (c2 : Nat → Nat → Int), ((SD c c2 ∧ RR P T c2)) → z = (euF P (bitsU (pBt P x y) (gN P)) (gN P) 0 0) → post (some (vi z)) (S nw nx g, 78 + gn, c2) := fun z c2 h e9 => e9 ▸ K c2 h
    have hx : x < gN P := by omega
    have fx := hV.2.2.1 x hx
    have hy : y < gN P := by omega
    have fy := hV.2.2.1 y hy
    refine g_X9_euler_0n hM hV hC hG hR ?_
    refine ⟨?_, ?_, fun c_1 h_1 => ⟨?_, ?_, ?_⟩⟩
    all_goals first | omega | assumption | (exfalso; simp only [decide_eq_true_eq, decide_eq_false_iff_not] at *; omega) | exact lp_X9_euler_26 (ML_SD hM h_1.1) hV hC (bitsU_63 hN60) (gN P) 0 0 (by omega) (K c_1 ⟨h_1.1, Or.inr h_1.2⟩) | exact K _ (by first | exact ⟨SD_rf, hR⟩ | exact ⟨h_1.1, Or.inr h_1.2⟩ | assumption | exact ⟨SD_tr h_1.1 (SD_SC h_2), Or.inr (RD_SC h_1.2 h_2)⟩ | exact ⟨SD_tr h_1.1 (SD_SC (SC_tr h_2 h_3)), Or.inr (RD_SC h_1.2 (SC_tr h_2 h_3))⟩) | (refine K1 _ _ (by first | exact ⟨SD_rf, hR⟩ | exact ⟨h_1.1, Or.inr h_1.2⟩ | assumption | exact ⟨SD_tr h_1.1 (SD_SC h_2), Or.inr (RD_SC h_1.2 h_2)⟩ | exact ⟨SD_tr h_1.1 (SD_SC (SC_tr h_2 h_3)), Or.inr (RD_SC h_1.2 (SC_tr h_2 h_3))⟩) ?_; first | rfl | (simp [bz, *]; done) | (split <;> first | rfl | omega))
  · have e : q_euler P x y = (-2000) := by rw [q_euler, if_neg hv]
    rw [e] at K
    have K1 : ∀ (z : Int) (c2 : Nat → Nat → Int), ((SD c c2 ∧ RR P T c2)) → z = ((-2000)) → post (some (vi z)) (S nw nx g, 78 + gn, c2) := fun z c2 h e9 => e9 ▸ K c2 h
    refine g_X9_euler_0 hM hV hC hG hR ?_
    refine ⟨?_, ?_, fun c_1 h_1 => ⟨fun q => ?_, fun q => ?_⟩⟩
    all_goals first | omega | assumption | (exfalso; simp only [decide_eq_true_eq, decide_eq_false_iff_not] at *; omega) | exact K _ (by first | exact ⟨SD_rf, hR⟩ | exact ⟨h_1.1, Or.inr h_1.2⟩ | assumption | exact ⟨SD_tr h_1.1 (SD_SC h_2), Or.inr (RD_SC h_1.2 h_2)⟩ | exact ⟨SD_tr h_1.1 (SD_SC (SC_tr h_2 h_3)), Or.inr (RD_SC h_1.2 (SC_tr h_2 h_3))⟩) | (refine K1 _ _ (by first | exact ⟨SD_rf, hR⟩ | exact ⟨h_1.1, Or.inr h_1.2⟩ | assumption | exact ⟨SD_tr h_1.1 (SD_SC h_2), Or.inr (RD_SC h_1.2 h_2)⟩ | exact ⟨SD_tr h_1.1 (SD_SC (SC_tr h_2 h_3)), Or.inr (RD_SC h_1.2 (SC_tr h_2 h_3))⟩) ?_; first | rfl | (simp [bz, *]; done) | (split <;> first | rfl | omega))

theorem hp_87 {P : GD} {T : PT} (hV : GV P) (hG : GP P T) {v w : Nat} (hv : v < gN P) (hw : w < gN P) : hpT T v w = hpF (T v w) 0 7 := by
  rw [hpT, hpF, if_neg (fun h => h (by rw [Nat.zero_add]; exact T_7 hV hG hv hw))]
set_option maxHeartbeats 2000000 in
set_option maxRecDepth 20000 in
theorem g_X9_degree_15 {G : GG} {j nw nx gn : Nat} {g : Nat → Sh} {c : Nat → Nat → Int} {post : Option AV → AM → Prop} {x : Nat} {y : Nat} {P : GD} {T : PT} {k : Nat} (hM : ML c P) (hV : GV P) (hC : GC P) (hD : PD P T c)  (hv : (k < 2147483648) ∧ (((((k : Nat) : Int) < 0) → post (some (vi (((k : Nat) : Int)))) (S nw nx g, 78 + gn, c)) ∧ ((¬ (((k : Nat) : Int) < 0)) → (x < gN P) ∧ (y < gN P) ∧ (k < 2147483648) ∧ ((-2147483648 ≤ (if k < 7 then T x y k else 0) ∧ (if k < 7 then T x y k else 0) < 2147483648) ∧ ((((if k < 7 then T x y k else 0) ≠ 0) → post (some (vi (((k : Nat) : Int)))) (S nw nx g, 78 + gn, c)) ∧ (((if k < 7 then T x y k else 0) = 0) → SW G (j + 5) mX9_degree 15 [some (vr (49)), some (vi (((x : Nat) : Int))), some (vi (((y : Nat) : Int))), some (vi (((k : Nat) : Int) + (-1)))] [] (S nw nx g, 78 + gn, c) B0 post)))))) :
    SW G (j + 5) mX9_degree 15 [some (vr (49)), some (vi (((x : Nat) : Int))), some (vi (((y : Nat) : Int))), some (vi (((k : Nat) : Int)))] [] (S nw nx g, 78 + gn, c) B0 post := by
  refine sw_iload_n (dX9_degree.at 9 rfl) rfl rfl ?_
  refine sw_if_lt (tgt := 35) (dX9_degree.at 10 rfl) (by decide) (nrng hv.1) (fun q => ?_) (fun q => ?_)
  · replace hv := hv.2.1 q
    refine sw_iload_n (dX9_degree.at 19 rfl) rfl rfl ?_
    exact sw_iret (dX9_degree.at 20 rfl) rfl (Nat.le_refl _) (Nat.le_refl _) hv
  · replace hv := hv.2.2 q
    refine sw_aload_n (dX9_degree.at 11 rfl) rfl rfl ?_
    refine sw_iload_n (dX9_degree.at 12 rfl) rfl rfl ?_
    refine sw_iload_n (dX9_degree.at 13 rfl) rfl rfl ?_
    refine sw_iload_n (dX9_degree.at 14 rfl) rfl rfl ?_
    refine sw_callV (B' := B0) (As := [vi (((x : Nat) : Int)), vi (((y : Nat) : Int)), vi (((k : Nat) : Int))]) (mc := 0) (ms := 0) (dX9_degree.at 15 rfl) lk_X9_292 (S_lt 49 (by decide)) (S_49 nw nx g) rfl rfl (Nat.le_of_ble_eq_true rfl) rfl (Nat.le_refl _) (Nat.le_refl _) ?_
    refine c_X9_pAtD (v := x) (w := y) (k := k) (j := j + 3) hM hV hC hD hv.1 hv.2.1 hv.2.2.1 ?_
    replace hv := hv.2.2.2
    refine sw_if_ne (tgt := 35) (dX9_degree.at 16 rfl) (by decide) hv.1 (fun q => ?_) (fun q => ?_)
    · replace hv := hv.2.1 q
      refine sw_iload_n (dX9_degree.at 19 rfl) rfl rfl ?_
      exact sw_iret (dX9_degree.at 20 rfl) rfl (Nat.le_refl _) (Nat.le_refl _) hv
    · replace hv := hv.2.2 q
      refine sw_iinc (lo' := [some (vr (49)), some (vi (((x : Nat) : Int))), some (vi (((y : Nat) : Int))), some (vi (((k : Nat) : Int) + (-1)))]) (dX9_degree.at 17 rfl) rfl (by decide) rfl ?_
      refine sw_goto (tgt := 15) (dX9_degree.at 18 rfl) (by decide) ?_
      exact hv

set_option maxHeartbeats 2000000 in
set_option maxRecDepth 20000 in
theorem g_X9_degree_15e {G : GG} {j nw nx gn : Nat} {g : Nat → Sh} {c : Nat → Nat → Int} {post : Option AV → AM → Prop} {x : Nat} {y : Nat}  (hv : post (some (vi ((-1)))) (S nw nx g, 78 + gn, c)) :
    SW G (j + 5) mX9_degree 15 [some (vr (49)), some (vi (((x : Nat) : Int))), some (vi (((y : Nat) : Int))), some (vi ((-1)))] [] (S nw nx g, 78 + gn, c) B0 post := by
  refine sw_iload_n (dX9_degree.at 9 rfl) rfl rfl ?_
  refine sw_if_lt (tgt := 35) (dX9_degree.at 10 rfl) (by decide) (by decide) (fun q => ?_) (fun q => ?_)
  · clear q
    refine sw_iload_n (dX9_degree.at 19 rfl) rfl rfl ?_
    exact sw_iret (dX9_degree.at 20 rfl) rfl (Nat.le_refl _) (Nat.le_refl _) hv
  · exact absurd q (by decide)

set_option maxHeartbeats 2000000 in
theorem lp_X9_degree_15 {G : GG} {j nw nx gn : Nat} {g : Nat → Sh} {c : Nat → Nat → Int} {post : Option AV → AM → Prop} {P : GD} {T : PT} {x y : Nat} (hM : ML c P) (hV : GV P) (hC : GC P) (hD : PD P T c) (hT : HT P T) (hx : x < gN P) (hy : y < gN P) : ∀ k : Nat, k ≤ 7 → post (some (vi (hpF (T x y) 0 k))) (S nw nx g, 78 + gn, c) → SW G (j + 5) mX9_degree 15 [some (vr (49)), some (vi (((x : Nat) : Int))), some (vi (((y : Nat) : Int))), some (vi ((k : Int) - 1))] [] (S nw nx g, 78 + gn, c) B0 post := by
  intro k
  induction k with
  | zero =>
    intro _ K
    have e : (((0 : Nat) : Int) - 1) = (-1) := by omega
    rw [e]
    exact g_X9_degree_15e K
  | succ k ih =>
    intro hk K
    have e : (((k + 1 : Nat) : Int) - 1) = ((k : Nat) : Int) := by omega
    have e2 : ((k : Nat) : Int) + (-1) = (k : Int) - 1 := by omega
    have b := hT.2.2 x y k hx hy (by omega)
    rw [e]
    rw [hpF, Nat.zero_add] at K
    refine g_X9_degree_15 hM hV hC hD ?_
    rw [e2, if_pos (show k < 7 by omega)]
    refine ⟨?_, ⟨fun q => ?_, fun q => ⟨?_, ?_, ?_, ⟨?_, ⟨fun q => ?_, fun q => ?_⟩⟩⟩⟩⟩
    all_goals first | omega | assumption | (exfalso; omega) | (rw [if_pos (by assumption)] at K; exact K) | (rw [if_neg (by omega)] at K; exact ih (by omega) K)

set_option maxHeartbeats 2000000 in
set_option maxRecDepth 20000 in
theorem g_X9_degree_0n {G : GG} {j nw nx gn : Nat} {g : Nat → Sh} {c : Nat → Nat → Int} {post : Option AV → AM → Prop} {x : Nat} {y : Nat} {P : GD} {T : PT} (hM : ML c P) (hV : GV P) (hC : GC P) (hG : GP P T) (hR : RR P T c) (hT : HT P T)  (hv : (x < gN P) ∧ (y < gN P) ∧ (∀ c_1 : Nat → Nat → Int, (SD c c_1 ∧ RD P T c_1) → SW G (j + 5) mX9_degree 15 [some (vr (49)), some (vi (((x : Nat) : Int))), some (vi (((y : Nat) : Int))), some (vi (6))] [] (S nw nx g, 78 + gn, c_1) B0 post)) :
    SW G (j + 5) mX9_degree 0 [some (vr (49)), some (vi (((x : Nat) : Int))), some (vi (((y : Nat) : Int))), none] [] (S nw nx g, 78 + gn, c) B0 post := by
  refine sw_aload_n (dX9_degree.at 0 rfl) rfl rfl ?_
  refine sw_iload_n (dX9_degree.at 1 rfl) rfl rfl ?_
  refine sw_iload_n (dX9_degree.at 2 rfl) rfl rfl ?_
  refine sw_callV (B' := B0) (As := [vi (((x : Nat) : Int)), vi (((y : Nat) : Int))]) (mc := 0) (ms := 0) (dX9_degree.at 3 rfl) lk_X9_308 (S_lt 49 (by decide)) (S_49 nw nx g) rfl rfl (Nat.le_of_ble_eq_true rfl) rfl (Nat.le_refl _) (Nat.le_refl _) ?_
  refine c_X9_arePairY (x := x) (y := y) (j := j + 0) hM hV hC hG hR hv.1 hv.2.1 (fun c_1 h_1 => ?_)
  replace hv := hv.2.2 c_1 h_1
  refine sw_if_ne (tgt := 12) (dX9_degree.at 4 rfl) (by decide) (by decide) (fun q => ?_) (fun q => ?_)
  · clear q
    refine sw_bipush (dX9_degree.at 7 rfl) (by decide) ?_
    refine sw_istore_n (lo' := [some (vr (49)), some (vi (((x : Nat) : Int))), some (vi (((y : Nat) : Int))), some (vi (6))]) (dX9_degree.at 8 rfl) rfl (by decide) rfl ?_
    exact hv
  · exact absurd q (by decide)

set_option maxHeartbeats 2000000 in
set_option maxRecDepth 20000 in
theorem g_X9_degree_0 {G : GG} {j nw nx gn : Nat} {g : Nat → Sh} {c : Nat → Nat → Int} {post : Option AV → AM → Prop} {x : Int} {y : Int} {P : GD} {T : PT} (hM : ML c P) (hV : GV P) (hC : GC P) (hG : GP P T) (hR : RR P T c) (hT : HT P T)  (hv : (-2147483648 ≤ x ∧ x < 2147483648) ∧ (-2147483648 ≤ y ∧ y < 2147483648) ∧ (∀ c_1 : Nat → Nat → Int, (SD c c_1 ∧ RR P T c_1) → (((decide ((0 ≤ x ∧ x < (gN P : Int)) ∧ 0 ≤ y ∧ y < (gN P : Int))) = true) → SW G (j + 5) mX9_degree 15 [some (vr (49)), some (vi (x)), some (vi (y)), some (vi (6))] [] (S nw nx g, 78 + gn, c_1) B0 post) ∧ (((decide ((0 ≤ x ∧ x < (gN P : Int)) ∧ 0 ≤ y ∧ y < (gN P : Int))) = false) → post (some (vi ((-2)))) (S nw nx g, 78 + gn, c_1)))) :
    SW G (j + 5) mX9_degree 0 [some (vr (49)), some (vi (x)), some (vi (y)), none] [] (S nw nx g, 78 + gn, c) B0 post := by
  refine sw_aload_n (dX9_degree.at 0 rfl) rfl rfl ?_
  refine sw_iload_n (dX9_degree.at 1 rfl) rfl rfl ?_
  refine sw_iload_n (dX9_degree.at 2 rfl) rfl rfl ?_
  refine sw_callV (B' := B0) (As := [vi (x), vi (y)]) (mc := 0) (ms := 0) (dX9_degree.at 3 rfl) lk_X9_308 (S_lt 49 (by decide)) (S_49 nw nx g) rfl rfl (Nat.le_of_ble_eq_true rfl) rfl (Nat.le_refl _) (Nat.le_refl _) ?_
  refine c_X9_arePairG (x := x) (y := y) (j := j + 0) hM hV hC hG hR hv.1 hv.2.1 (fun c_1 h_1 => ?_)
  replace hv := hv.2.2 c_1 h_1
  refine sw_if_ne (tgt := 12) (dX9_degree.at 4 rfl) (by decide) (bz_rng _) (fun q => ?_) (fun q => ?_)
  · replace hv := hv.1 (bz_1 q)
    refine sw_bipush (dX9_degree.at 7 rfl) (by decide) ?_
    refine sw_istore_n (lo' := [some (vr (49)), some (vi (x)), some (vi (y)), some (vi (6))]) (dX9_degree.at 8 rfl) rfl (by decide) rfl ?_
    exact hv
  · replace hv := hv.2 (bz_n1 q)
    refine sw_bipush (dX9_degree.at 5 rfl) (by decide) ?_
    exact sw_iret (dX9_degree.at 6 rfl) rfl (Nat.le_refl _) (Nat.le_refl _) hv

set_option maxHeartbeats 4000000 in
theorem c_X9_degree {G : GG} {j nw nx gn : Nat} {g : Nat → Sh} {c : Nat → Nat → Int} {post : Option AV → AM → Prop} {P : GD} {T : PT} {x y : Int} (hM : ML c P) (hV : GV P) (hC : GC P) (hG : GP P T) (hR : RR P T c) (hT : HT P T) (p1 : -2147483648 ≤ x ∧ x < 2147483648) (p2 : -2147483648 ≤ y ∧ y < 2147483648) (K : ∀ c2 : Nat → Nat → Int, (SD c c2 ∧ RR P T c2) → post (some (vi (q_degree P T x y))) (S nw nx g, 78 + gn, c2)) : SM G (j + 6) mX9_degree [vr (49), vi (x), vi (y)] (S nw nx g, 78 + gn, c) 0 0 post := by
  refine sm_of wX9_degree rfl (Nat.le_of_ble_eq_true rfl) ?_
  have hN60 := GV_N hV
  have hR5 := GV_R hV
  by_cases hv : (0 ≤ x ∧ x < (gN P : Int)) ∧ 0 ≤ y ∧ y < (gN P : Int)
  · obtain ⟨x, rfl⟩ : ∃ n : Nat, x = (n : Int) := ⟨x.toNat, by omega⟩
    obtain ⟨y, rfl⟩ : ∃ n : Nat, y = (n : Int) := ⟨y.toNat, by omega⟩
    have e : q_degree P T ((x : Nat) : Int) ((y : Nat) : Int) = hpT T x y := by
      rw [q_degree, if_pos hv]
      simp only [Int.toNat_natCast]
    rw [e] at K
    have K1 : ∀ (z : Int) (c2 : Nat → Nat → Int), ((SD c c2 ∧ RR P T c2)) → z = (hpT T x y) → post (some (vi z)) (S nw nx g, 78 + gn, c2) := fun z c2 h e9 => e9 ▸ K c2 h
    have hx : x < gN P := by omega
    have fx := hV.2.2.1 x hx
    have hy : y < gN P := by omega
    have fy := hV.2.2.1 y hy
    have e9 := hp_87 hV hG hx hy
    rw [e9] at K
    refine g_X9_degree_0n hM hV hC hG hR hT ?_
    refine ⟨?_, ?_, fun c_1 h_1 => ?_⟩
    all_goals first | omega | assumption | (exfalso; simp only [decide_eq_true_eq, decide_eq_false_iff_not] at *; omega) | exact lp_X9_degree_15 (ML_SD hM h_1.1) hV hC h_1.2.2 hT hx hy 7 (by omega) (K c_1 ⟨h_1.1, Or.inr h_1.2⟩) | exact K _ (by first | exact ⟨SD_rf, hR⟩ | exact ⟨h_1.1, Or.inr h_1.2⟩ | assumption | exact ⟨SD_tr h_1.1 (SD_SC h_2), Or.inr (RD_SC h_1.2 h_2)⟩ | exact ⟨SD_tr h_1.1 (SD_SC (SC_tr h_2 h_3)), Or.inr (RD_SC h_1.2 (SC_tr h_2 h_3))⟩) | (refine K1 _ _ (by first | exact ⟨SD_rf, hR⟩ | exact ⟨h_1.1, Or.inr h_1.2⟩ | assumption | exact ⟨SD_tr h_1.1 (SD_SC h_2), Or.inr (RD_SC h_1.2 h_2)⟩ | exact ⟨SD_tr h_1.1 (SD_SC (SC_tr h_2 h_3)), Or.inr (RD_SC h_1.2 (SC_tr h_2 h_3))⟩) ?_; first | rfl | (simp [bz, *]; done) | (split <;> first | rfl | omega))
  · have e : q_degree P T x y = (-2) := by rw [q_degree, if_neg hv]
    rw [e] at K
    have K1 : ∀ (z : Int) (c2 : Nat → Nat → Int), ((SD c c2 ∧ RR P T c2)) → z = ((-2)) → post (some (vi z)) (S nw nx g, 78 + gn, c2) := fun z c2 h e9 => e9 ▸ K c2 h
    refine g_X9_degree_0 hM hV hC hG hR hT ?_
    refine ⟨?_, ?_, fun c_1 h_1 => ⟨fun q => ?_, fun q => ?_⟩⟩
    all_goals first | omega | assumption | (exfalso; simp only [decide_eq_true_eq, decide_eq_false_iff_not] at *; omega) | exact K _ (by first | exact ⟨SD_rf, hR⟩ | exact ⟨h_1.1, Or.inr h_1.2⟩ | assumption | exact ⟨SD_tr h_1.1 (SD_SC h_2), Or.inr (RD_SC h_1.2 h_2)⟩ | exact ⟨SD_tr h_1.1 (SD_SC (SC_tr h_2 h_3)), Or.inr (RD_SC h_1.2 (SC_tr h_2 h_3))⟩) | (refine K1 _ _ (by first | exact ⟨SD_rf, hR⟩ | exact ⟨h_1.1, Or.inr h_1.2⟩ | assumption | exact ⟨SD_tr h_1.1 (SD_SC h_2), Or.inr (RD_SC h_1.2 h_2)⟩ | exact ⟨SD_tr h_1.1 (SD_SC (SC_tr h_2 h_3)), Or.inr (RD_SC h_1.2 (SC_tr h_2 h_3))⟩) ?_; first | rfl | (simp [bz, *]; done) | (split <;> first | rfl | omega))

set_option maxHeartbeats 2000000 in
set_option maxRecDepth 20000 in
theorem g_X9_muOf_0n {G : GG} {j nw nx gn : Nat} {g : Nat → Sh} {c : Nat → Nat → Int} {post : Option AV → AM → Prop} {v : Nat} {w : Nat} {P : GD} {T : PT} (hM : ML c P) (hV : GV P) (hC : GC P) (hD : PD P T c)  (hv : (w < gN P) ∧ ((v < gN P) ∧ ((gL P v ≤ gL P w) ∧ (((gL P w) - (gL P v) < 2147483648) ∧ ((((((gL P w) - (gL P v) : Nat) : Int) ≤ 0) → post (some (vi (0))) (S nw nx g, 78 + gn, c)) ∧ ((¬ ((((gL P w) - (gL P v) : Nat) : Int) ≤ 0)) → ((gL P w) - (gL P v) < 2147483648) ∧ ((((gL P w) - (gL P v)) % 2 < 2147483648) ∧ (((((gL P w) - (gL P v)) % 2 ≠ 1) → post (some (vi (0))) (S nw nx g, 78 + gn, c)) ∧ ((((gL P w) - (gL P v)) % 2 = 1) → (1 ≤ (gL P w) - (gL P v)) ∧ ((((gL P w) - (gL P v)) - 1 < 2147483648) ∧ ((v < gN P) ∧ (w < gN P) ∧ (((((gL P w) - (gL P v)) - 1) / 2) < 2147483648) ∧ (post (some (vi ((if ((((gL P w) - (gL P v)) - 1) / 2) < 7 then T v w ((((gL P w) - (gL P v)) - 1) / 2) else 0)))) (S nw nx g, 78 + gn, c))))))))))))) :
    SW G (j + 2) mX9_muOf 0 [some (vr (49)), some (vi (((v : Nat) : Int))), some (vi (((w : Nat) : Int))), none] [] (S nw nx g, 78 + gn, c) B0 post := by
  refine sw_aload_n (dX9_muOf.at 0 rfl) rfl rfl ?_
  refine sw_getR (dX9_muOf.at 1 rfl) fp_X9_32 (S_lt 49 (by decide)) (S_49 nw nx g) rfl rfl ?_
  refine sw_iload_n (dX9_muOf.at 2 rfl) rfl rfl ?_
  refine sw_ialdN w (w := ((gL P w : Nat) : Int)) (dX9_muOf.at 3 rfl) (S_lt 56 (by decide)) (S_56 nw nx g) (by decide) (GV_lt hV hv.1) (ML_L hM hv.1) ?_
  replace hv := hv.2
  refine sw_aload_n (dX9_muOf.at 4 rfl) rfl rfl ?_
  refine sw_getR (dX9_muOf.at 5 rfl) fp_X9_32 (S_lt 49 (by decide)) (S_49 nw nx g) rfl rfl ?_
  refine sw_iload_n (dX9_muOf.at 6 rfl) rfl rfl ?_
  refine sw_ialdN v (w := ((gL P v : Nat) : Int)) (dX9_muOf.at 7 rfl) (S_lt 56 (by decide)) (S_56 nw nx g) (by decide) (GV_lt hV hv.1) (ML_L hM hv.1) ?_
  replace hv := hv.2
  refine sw_isub (dX9_muOf.at 8 rfl) ?_
  refine sw_topI (y := (((gL P w) - (gL P v) : Nat) : Int)) (congrArg _ (Int.ofNat_sub hv.1).symm) ?_
  replace hv := hv.2
  refine sw_istore_n (lo' := [some (vr (49)), some (vi (((v : Nat) : Int))), some (vi (((w : Nat) : Int))), some (vi ((((gL P w) - (gL P v) : Nat) : Int)))]) (dX9_muOf.at 9 rfl) rfl (by decide) rfl ?_
  refine sw_iload_n (dX9_muOf.at 10 rfl) rfl rfl ?_
  refine sw_if_le (tgt := 39) (dX9_muOf.at 11 rfl) (by decide) (nrng hv.1) (fun q => ?_) (fun q => ?_)
  · replace hv := hv.2.1 q
    refine sw_iconst (dX9_muOf.at 27 rfl) ?_
    exact sw_iret (dX9_muOf.at 28 rfl) rfl (Nat.le_refl _) (Nat.le_refl _) hv
  · replace hv := hv.2.2 q
    refine sw_iload_n (dX9_muOf.at 12 rfl) rfl rfl ?_
    refine sw_iconst (dX9_muOf.at 13 rfl) ?_
    refine sw_iremN ((gL P w) - (gL P v)) 2 (dX9_muOf.at 14 rfl) (by decide) (by decide) hv.1 ?_
    replace hv := hv.2
    refine sw_iconst (dX9_muOf.at 15 rfl) ?_
    refine sw_icmpN_ne (((gL P w) - (gL P v)) % 2) 1 (tgt := 39) (dX9_muOf.at 16 rfl) (by decide) hv.1 (by decide) (fun q => ?_) (fun q => ?_)
    · replace hv := hv.2.1 q
      refine sw_iconst (dX9_muOf.at 27 rfl) ?_
      exact sw_iret (dX9_muOf.at 28 rfl) rfl (Nat.le_refl _) (Nat.le_refl _) hv
    · replace hv := hv.2.2 q
      refine sw_aload_n (dX9_muOf.at 17 rfl) rfl rfl ?_
      refine sw_iload_n (dX9_muOf.at 18 rfl) rfl rfl ?_
      refine sw_iload_n (dX9_muOf.at 19 rfl) rfl rfl ?_
      refine sw_iload_n (dX9_muOf.at 20 rfl) rfl rfl ?_
      refine sw_iconst (dX9_muOf.at 21 rfl) ?_
      refine sw_isub (dX9_muOf.at 22 rfl) ?_
      refine sw_topI (y := ((((gL P w) - (gL P v)) - 1 : Nat) : Int)) (congrArg _ (Int.ofNat_sub hv.1).symm) ?_
      replace hv := hv.2
      refine sw_iconst (dX9_muOf.at 23 rfl) ?_
      refine sw_idivN (((gL P w) - (gL P v)) - 1) 2 (dX9_muOf.at 24 rfl) (by decide) (by decide) hv.1 ?_
      replace hv := hv.2
      refine sw_callV (B' := B0) (As := [vi (((v : Nat) : Int)), vi (((w : Nat) : Int)), vi ((((((gL P w) - (gL P v)) - 1) / 2 : Nat) : Int))]) (mc := 0) (ms := 0) (dX9_muOf.at 25 rfl) lk_X9_292 (S_lt 49 (by decide)) (S_49 nw nx g) rfl rfl (Nat.le_of_ble_eq_true rfl) rfl (Nat.le_refl _) (Nat.le_refl _) ?_
      refine c_X9_pAtD (v := v) (w := w) (k := ((((gL P w) - (gL P v)) - 1) / 2)) (j := j + 0) hM hV hC hD hv.1 hv.2.1 hv.2.2.1 ?_
      replace hv := hv.2.2.2
      refine sw_goto (tgt := 40) (dX9_muOf.at 26 rfl) (by decide) ?_
      exact sw_iret (dX9_muOf.at 28 rfl) rfl (Nat.le_refl _) (Nat.le_refl _) hv

set_option maxHeartbeats 2000000 in
set_option maxRecDepth 20000 in
theorem g_X9_muOf_0 {G : GG} {j nw nx gn : Nat} {g : Nat → Sh} {c : Nat → Nat → Int} {post : Option AV → AM → Prop} {v : Nat} {w : Nat} {P : GD} {T : PT} (hM : ML c P) (hV : GV P) (hC : GC P) (hD : PD P T c)  (hv : (w < gN P) ∧ ((v < gN P) ∧ ((-2147483648 ≤ ((gL P w : Nat) : Int) - ((gL P v : Nat) : Int) ∧ ((gL P w : Nat) : Int) - ((gL P v : Nat) : Int) < 2147483648) ∧ (((((gL P w : Nat) : Int) - ((gL P v : Nat) : Int) ≤ 0) → post (some (vi (0))) (S nw nx g, 78 + gn, c)) ∧ ((¬ (((gL P w : Nat) : Int) - ((gL P v : Nat) : Int) ≤ 0)) → (-2147483648 ≤ rem32 (((gL P w : Nat) : Int) - ((gL P v : Nat) : Int)) 2 ∧ rem32 (((gL P w : Nat) : Int) - ((gL P v : Nat) : Int)) 2 < 2147483648) ∧ (((rem32 (((gL P w : Nat) : Int) - ((gL P v : Nat) : Int)) 2 ≠ 1) → post (some (vi (0))) (S nw nx g, 78 + gn, c)) ∧ ((rem32 (((gL P w : Nat) : Int) - ((gL P v : Nat) : Int)) 2 = 1) → SW G (j + 2) mX9_muOf 33 [some (vr (49)), some (vi (((v : Nat) : Int))), some (vi (((w : Nat) : Int))), some (vi (((gL P w : Nat) : Int) - ((gL P v : Nat) : Int)))] [vi (div32 ((((gL P w : Nat) : Int) - ((gL P v : Nat) : Int)) - 1) 2), vi (((w : Nat) : Int)), vi (((v : Nat) : Int)), vr (49)] (S nw nx g, 78 + gn, c) B0 post))))))) :
    SW G (j + 2) mX9_muOf 0 [some (vr (49)), some (vi (((v : Nat) : Int))), some (vi (((w : Nat) : Int))), none] [] (S nw nx g, 78 + gn, c) B0 post := by
  refine sw_aload_n (dX9_muOf.at 0 rfl) rfl rfl ?_
  refine sw_getR (dX9_muOf.at 1 rfl) fp_X9_32 (S_lt 49 (by decide)) (S_49 nw nx g) rfl rfl ?_
  refine sw_iload_n (dX9_muOf.at 2 rfl) rfl rfl ?_
  refine sw_ialdN w (w := ((gL P w : Nat) : Int)) (dX9_muOf.at 3 rfl) (S_lt 56 (by decide)) (S_56 nw nx g) (by decide) (GV_lt hV hv.1) (ML_L hM hv.1) ?_
  replace hv := hv.2
  refine sw_aload_n (dX9_muOf.at 4 rfl) rfl rfl ?_
  refine sw_getR (dX9_muOf.at 5 rfl) fp_X9_32 (S_lt 49 (by decide)) (S_49 nw nx g) rfl rfl ?_
  refine sw_iload_n (dX9_muOf.at 6 rfl) rfl rfl ?_
  refine sw_ialdN v (w := ((gL P v : Nat) : Int)) (dX9_muOf.at 7 rfl) (S_lt 56 (by decide)) (S_56 nw nx g) (by decide) (GV_lt hV hv.1) (ML_L hM hv.1) ?_
  replace hv := hv.2
  refine sw_isub (dX9_muOf.at 8 rfl) ?_
  refine sw_istore_n (lo' := [some (vr (49)), some (vi (((v : Nat) : Int))), some (vi (((w : Nat) : Int))), some (vi (((gL P w : Nat) : Int) - ((gL P v : Nat) : Int)))]) (dX9_muOf.at 9 rfl) rfl (by decide) rfl ?_
  refine sw_iload_n (dX9_muOf.at 10 rfl) rfl rfl ?_
  refine sw_if_le (tgt := 39) (dX9_muOf.at 11 rfl) (by decide) hv.1 (fun q => ?_) (fun q => ?_)
  · replace hv := hv.2.1 q
    refine sw_iconst (dX9_muOf.at 27 rfl) ?_
    exact sw_iret (dX9_muOf.at 28 rfl) rfl (Nat.le_refl _) (Nat.le_refl _) hv
  · replace hv := hv.2.2 q
    refine sw_iload_n (dX9_muOf.at 12 rfl) rfl rfl ?_
    refine sw_iconst (dX9_muOf.at 13 rfl) ?_
    refine sw_irem (dX9_muOf.at 14 rfl) (by decide) ?_
    refine sw_iconst (dX9_muOf.at 15 rfl) ?_
    refine sw_icmp_ne (tgt := 39) (dX9_muOf.at 16 rfl) (by decide) hv.1 (by decide) (fun q => ?_) (fun q => ?_)
    · replace hv := hv.2.1 q
      refine sw_iconst (dX9_muOf.at 27 rfl) ?_
      exact sw_iret (dX9_muOf.at 28 rfl) rfl (Nat.le_refl _) (Nat.le_refl _) hv
    · replace hv := hv.2.2 q
      refine sw_aload_n (dX9_muOf.at 17 rfl) rfl rfl ?_
      refine sw_iload_n (dX9_muOf.at 18 rfl) rfl rfl ?_
      refine sw_iload_n (dX9_muOf.at 19 rfl) rfl rfl ?_
      refine sw_iload_n (dX9_muOf.at 20 rfl) rfl rfl ?_
      refine sw_iconst (dX9_muOf.at 21 rfl) ?_
      refine sw_isub (dX9_muOf.at 22 rfl) ?_
      refine sw_iconst (dX9_muOf.at 23 rfl) ?_
      refine sw_idiv (dX9_muOf.at 24 rfl) (by decide) ?_
      exact hv

set_option maxHeartbeats 2000000 in
theorem c_X9_muOf {G : GG} {j nw nx gn : Nat} {g : Nat → Sh} {c : Nat → Nat → Int} {post : Option AV → AM → Prop} {P : GD} {T : PT} {v w : Nat} (hM : ML c P) (hV : GV P) (hC : GC P) (hD : PD P T c) (p1 : v < gN P) (p2 : w < gN P) (K : post (some (vi (muT P T v w))) (S nw nx g, 78 + gn, c)) : SM G (j + 3) mX9_muOf [vr 49, vi ((v : Nat) : Int), vi ((w : Nat) : Int)] (S nw nx g, 78 + gn, c) 0 0 post := by
  refine sm_of wX9_muOf rfl (Nat.le_of_ble_eq_true rfl) ?_
  have l1 := (hV.2.2.1 v p1).1
  have l2 := (hV.2.2.1 w p2).1
  rw [muT] at K
  by_cases h : gL P v ≤ gL P w
  · refine g_X9_muOf_0n hM hV hC hD ?_
    rw [if_pos (show (gL P w - gL P v - 1) / 2 < 7 by omega)]
    refine ⟨?_, ⟨?_, ⟨?_, ⟨?_, ⟨fun q => ?_, fun q => ⟨?_, ⟨?_, ⟨fun q => ?_, fun q => ⟨?_, ⟨?_, ⟨?_, ?_, ?_, ?_⟩⟩⟩⟩⟩⟩⟩⟩⟩⟩⟩
    all_goals first | assumption | omega | (rw [if_neg (by omega)] at K; exact K) | (rw [if_pos (by omega)] at K; exact K)
  · refine g_X9_muOf_0 hM hV hC hD ?_
    rw [if_neg (by omega)] at K
    refine ⟨?_, ⟨?_, ⟨?_, ⟨fun q => ?_, fun q => ⟨?_, ⟨fun q => ?_, fun q => ?_⟩⟩⟩⟩⟩⟩
    all_goals first | assumption | omega | (exfalso; omega)

set_option maxHeartbeats 2000000 in
set_option maxRecDepth 20000 in
theorem g_X9_mu_0n {G : GG} {j nw nx gn : Nat} {g : Nat → Sh} {c : Nat → Nat → Int} {post : Option AV → AM → Prop} {x : Nat} {y : Nat} {P : GD} {T : PT} (hM : ML c P) (hV : GV P) (hC : GC P) (hG : GP P T) (hR : RR P T c)  (hv : (x < gN P) ∧ (y < gN P) ∧ (∀ c_1 : Nat → Nat → Int, (SD c c_1 ∧ RD P T c_1) → (x < gN P) ∧ (y < gN P) ∧ (post (some (vi (muT P T x y))) (S nw nx g, 78 + gn, c_1)))) :
    SW G (j + 5) mX9_mu 0 [some (vr (49)), some (vi (((x : Nat) : Int))), some (vi (((y : Nat) : Int)))] [] (S nw nx g, 78 + gn, c) B0 post := by
  refine sw_aload_n (dX9_mu.at 0 rfl) rfl rfl ?_
  refine sw_iload_n (dX9_mu.at 1 rfl) rfl rfl ?_
  refine sw_iload_n (dX9_mu.at 2 rfl) rfl rfl ?_
  refine sw_callV (B' := B0) (As := [vi (((x : Nat) : Int)), vi (((y : Nat) : Int))]) (mc := 0) (ms := 0) (dX9_mu.at 3 rfl) lk_X9_308 (S_lt 49 (by decide)) (S_49 nw nx g) rfl rfl (Nat.le_of_ble_eq_true rfl) rfl (Nat.le_refl _) (Nat.le_refl _) ?_
  refine c_X9_arePairY (x := x) (y := y) (j := j + 0) hM hV hC hG hR hv.1 hv.2.1 (fun c_1 h_1 => ?_)
  replace hv := hv.2.2 c_1 h_1
  refine sw_if_eq (tgt := 18) (dX9_mu.at 4 rfl) (by decide) (by decide) (fun q => ?_) (fun q => ?_)
  · exact absurd q (by decide)
  · clear q
    refine sw_aload_n (dX9_mu.at 5 rfl) rfl rfl ?_
    refine sw_iload_n (dX9_mu.at 6 rfl) rfl rfl ?_
    refine sw_iload_n (dX9_mu.at 7 rfl) rfl rfl ?_
    refine sw_callV (B' := B0) (As := [vi (((x : Nat) : Int)), vi (((y : Nat) : Int))]) (mc := 0) (ms := 0) (dX9_mu.at 8 rfl) lk_X9_319 (S_lt 49 (by decide)) (S_49 nw nx g) rfl rfl (Nat.le_of_ble_eq_true rfl) rfl (Nat.le_refl _) (Nat.le_refl _) ?_
    refine c_X9_muOf (v := x) (w := y) (j := j + 2) (ML_SD hM (SD_tr SD_rf h_1.1)) hV hC h_1.2.2 hv.1 hv.2.1 ?_
    replace hv := hv.2.2
    refine sw_goto (tgt := 20) (dX9_mu.at 9 rfl) (by decide) ?_
    exact sw_iret (dX9_mu.at 11 rfl) rfl (Nat.le_refl _) (Nat.le_refl _) hv

set_option maxHeartbeats 2000000 in
set_option maxRecDepth 20000 in
theorem g_X9_mu_0 {G : GG} {j nw nx gn : Nat} {g : Nat → Sh} {c : Nat → Nat → Int} {post : Option AV → AM → Prop} {x : Int} {y : Int} {P : GD} {T : PT} (hM : ML c P) (hV : GV P) (hC : GC P) (hG : GP P T) (hR : RR P T c)  (hv : (-2147483648 ≤ x ∧ x < 2147483648) ∧ (-2147483648 ≤ y ∧ y < 2147483648) ∧ (∀ c_1 : Nat → Nat → Int, (SD c c_1 ∧ RR P T c_1) → (((decide ((0 ≤ x ∧ x < (gN P : Int)) ∧ 0 ≤ y ∧ y < (gN P : Int))) = false) → post (some (vi ((-2)))) (S nw nx g, 78 + gn, c_1)) ∧ (((decide ((0 ≤ x ∧ x < (gN P : Int)) ∧ 0 ≤ y ∧ y < (gN P : Int))) = true) → SW G (j + 5) mX9_mu 12 [some (vr (49)), some (vi (x)), some (vi (y))] [vi (y), vi (x), vr (49)] (S nw nx g, 78 + gn, c_1) B0 post))) :
    SW G (j + 5) mX9_mu 0 [some (vr (49)), some (vi (x)), some (vi (y))] [] (S nw nx g, 78 + gn, c) B0 post := by
  refine sw_aload_n (dX9_mu.at 0 rfl) rfl rfl ?_
  refine sw_iload_n (dX9_mu.at 1 rfl) rfl rfl ?_
  refine sw_iload_n (dX9_mu.at 2 rfl) rfl rfl ?_
  refine sw_callV (B' := B0) (As := [vi (x), vi (y)]) (mc := 0) (ms := 0) (dX9_mu.at 3 rfl) lk_X9_308 (S_lt 49 (by decide)) (S_49 nw nx g) rfl rfl (Nat.le_of_ble_eq_true rfl) rfl (Nat.le_refl _) (Nat.le_refl _) ?_
  refine c_X9_arePairG (x := x) (y := y) (j := j + 0) hM hV hC hG hR hv.1 hv.2.1 (fun c_1 h_1 => ?_)
  replace hv := hv.2.2 c_1 h_1
  refine sw_if_eq (tgt := 18) (dX9_mu.at 4 rfl) (by decide) (bz_rng _) (fun q => ?_) (fun q => ?_)
  · replace hv := hv.1 (bz_0 q)
    refine sw_bipush (dX9_mu.at 10 rfl) (by decide) ?_
    exact sw_iret (dX9_mu.at 11 rfl) rfl (Nat.le_refl _) (Nat.le_refl _) hv
  · replace hv := hv.2 (bz_n0 q)
    refine sw_aload_n (dX9_mu.at 5 rfl) rfl rfl ?_
    refine sw_iload_n (dX9_mu.at 6 rfl) rfl rfl ?_
    refine sw_iload_n (dX9_mu.at 7 rfl) rfl rfl ?_
    exact hv

set_option maxHeartbeats 4000000 in
theorem c_X9_mu {G : GG} {j nw nx gn : Nat} {g : Nat → Sh} {c : Nat → Nat → Int} {post : Option AV → AM → Prop} {P : GD} {T : PT} {x y : Int} (hM : ML c P) (hV : GV P) (hC : GC P) (hG : GP P T) (hR : RR P T c) (p1 : -2147483648 ≤ x ∧ x < 2147483648) (p2 : -2147483648 ≤ y ∧ y < 2147483648) (K : ∀ c2 : Nat → Nat → Int, (SD c c2 ∧ RR P T c2) → post (some (vi (q_mu P T x y))) (S nw nx g, 78 + gn, c2)) : SM G (j + 6) mX9_mu [vr (49), vi (x), vi (y)] (S nw nx g, 78 + gn, c) 0 0 post := by
  refine sm_of wX9_mu rfl (Nat.le_of_ble_eq_true rfl) ?_
  have hN60 := GV_N hV
  have hR5 := GV_R hV
  by_cases hv : (0 ≤ x ∧ x < (gN P : Int)) ∧ 0 ≤ y ∧ y < (gN P : Int)
  · obtain ⟨x, rfl⟩ : ∃ n : Nat, x = (n : Int) := ⟨x.toNat, by omega⟩
    obtain ⟨y, rfl⟩ : ∃ n : Nat, y = (n : Int) := ⟨y.toNat, by omega⟩
    have e : q_mu P T ((x : Nat) : Int) ((y : Nat) : Int) = muT P T x y := by
      rw [q_mu, if_pos hv]
      simp only [Int.toNat_natCast]
    rw [e] at K
    have K1 : ∀ (z : Int) (c2 : Nat → Nat → Int), ((SD c c2 ∧ RR P T c2)) → z = (muT P T x y) → post (some (vi z)) (S nw nx g, 78 + gn, c2) := fun z c2 h e9 => e9 ▸ K c2 h
    refine g_X9_mu_0n hM hV hC hG hR ?_
    refine ⟨?_, ?_, fun c_1 h_1 => ⟨?_, ?_, ?_⟩⟩
    all_goals first | omega | assumption | (exfalso; simp only [decide_eq_true_eq, decide_eq_false_iff_not] at *; omega) | exact K _ (by first | exact ⟨SD_rf, hR⟩ | exact ⟨h_1.1, Or.inr h_1.2⟩ | assumption | exact ⟨SD_tr h_1.1 (SD_SC h_2), Or.inr (RD_SC h_1.2 h_2)⟩ | exact ⟨SD_tr h_1.1 (SD_SC (SC_tr h_2 h_3)), Or.inr (RD_SC h_1.2 (SC_tr h_2 h_3))⟩) | (refine K1 _ _ (by first | exact ⟨SD_rf, hR⟩ | exact ⟨h_1.1, Or.inr h_1.2⟩ | assumption | exact ⟨SD_tr h_1.1 (SD_SC h_2), Or.inr (RD_SC h_1.2 h_2)⟩ | exact ⟨SD_tr h_1.1 (SD_SC (SC_tr h_2 h_3)), Or.inr (RD_SC h_1.2 (SC_tr h_2 h_3))⟩) ?_; first | rfl | (simp [bz, *]; done) | (split <;> first | rfl | omega))
  · have e : q_mu P T x y = (-2) := by rw [q_mu, if_neg hv]
    rw [e] at K
    have K1 : ∀ (z : Int) (c2 : Nat → Nat → Int), ((SD c c2 ∧ RR P T c2)) → z = ((-2)) → post (some (vi z)) (S nw nx g, 78 + gn, c2) := fun z c2 h e9 => e9 ▸ K c2 h
    refine g_X9_mu_0 hM hV hC hG hR ?_
    refine ⟨?_, ?_, fun c_1 h_1 => ⟨fun q => ?_, fun q => ?_⟩⟩
    all_goals first | omega | assumption | (exfalso; simp only [decide_eq_true_eq, decide_eq_false_iff_not] at *; omega) | exact K _ (by first | exact ⟨SD_rf, hR⟩ | exact ⟨h_1.1, Or.inr h_1.2⟩ | assumption | exact ⟨SD_tr h_1.1 (SD_SC h_2), Or.inr (RD_SC h_1.2 h_2)⟩ | exact ⟨SD_tr h_1.1 (SD_SC (SC_tr h_2 h_3)), Or.inr (RD_SC h_1.2 (SC_tr h_2 h_3))⟩) | (refine K1 _ _ (by first | exact ⟨SD_rf, hR⟩ | exact ⟨h_1.1, Or.inr h_1.2⟩ | assumption | exact ⟨SD_tr h_1.1 (SD_SC h_2), Or.inr (RD_SC h_1.2 h_2)⟩ | exact ⟨SD_tr h_1.1 (SD_SC (SC_tr h_2 h_3)), Or.inr (RD_SC h_1.2 (SC_tr h_2 h_3))⟩) ?_; first | rfl | (simp [bz, *]; done) | (split <;> first | rfl | omega))

set_option maxHeartbeats 2000000 in
set_option maxRecDepth 20000 in
theorem g_X9_at_34 {G : GG} {j nw nx gn : Nat} {g : Nat → Sh} {c : Nat → Nat → Int} {post : Option AV → AM → Prop} {x : Nat} {y : Nat} {z : Int} {P : GD} {T : PT} {v : Int} {k : Nat} (hM : ML c P) (hV : GV P) (hC : GC P) (hD : PD P T c)  (hv : (k < 2147483648) ∧ (((((k : Nat) : Int) < 0) → post (some (vi (v))) (S nw nx g, 78 + gn, c)) ∧ ((¬ (((k : Nat) : Int) < 0)) → (x < gN P) ∧ (y < gN P) ∧ (k < 2147483648) ∧ (SW G (j + 5) mX9_at 34 [some (vr (49)), some (vi (((x : Nat) : Int))), some (vi (((y : Nat) : Int))), some (vi (z)), some (vi ((z * v) + (if k < 7 then T x y k else 0))), some (vi (((k : Nat) : Int) + (-1)))] [] (S nw nx g, 78 + gn, c) B0 post)))) :
    SW G (j + 5) mX9_at 34 [some (vr (49)), some (vi (((x : Nat) : Int))), some (vi (((y : Nat) : Int))), some (vi (z)), some (vi (v)), some (vi (((k : Nat) : Int)))] [] (S nw nx g, 78 + gn, c) B0 post := by
  refine sw_iload (dX9_at.at 17 rfl) rfl ?_
  refine sw_if_lt (tgt := 60) (dX9_at.at 18 rfl) (by decide) (nrng hv.1) (fun q => ?_) (fun q => ?_)
  · replace hv := hv.2.1 q
    refine sw_iload (dX9_at.at 31 rfl) rfl ?_
    exact sw_iret (dX9_at.at 32 rfl) rfl (Nat.le_refl _) (Nat.le_refl _) hv
  · replace hv := hv.2.2 q
    refine sw_iload_n (dX9_at.at 19 rfl) rfl rfl ?_
    refine sw_iload (dX9_at.at 20 rfl) rfl ?_
    refine sw_imul (dX9_at.at 21 rfl) ?_
    refine sw_aload_n (dX9_at.at 22 rfl) rfl rfl ?_
    refine sw_iload_n (dX9_at.at 23 rfl) rfl rfl ?_
    refine sw_iload_n (dX9_at.at 24 rfl) rfl rfl ?_
    refine sw_iload (dX9_at.at 25 rfl) rfl ?_
    refine sw_callV (B' := B0) (As := [vi (((x : Nat) : Int)), vi (((y : Nat) : Int)), vi (((k : Nat) : Int))]) (mc := 0) (ms := 0) (dX9_at.at 26 rfl) lk_X9_292 (S_lt 49 (by decide)) (S_49 nw nx g) rfl rfl (Nat.le_of_ble_eq_true rfl) rfl (Nat.le_refl _) (Nat.le_refl _) ?_
    refine c_X9_pAtD (v := x) (w := y) (k := k) (j := j + 3) hM hV hC hD hv.1 hv.2.1 hv.2.2.1 ?_
    replace hv := hv.2.2.2
    refine sw_iadd (dX9_at.at 27 rfl) ?_
    refine sw_istore (lo' := [some (vr (49)), some (vi (((x : Nat) : Int))), some (vi (((y : Nat) : Int))), some (vi (z)), some (vi ((z * v) + (if k < 7 then T x y k else 0))), some (vi (((k : Nat) : Int)))]) (dX9_at.at 28 rfl) (by decide) rfl ?_
    refine sw_iinc (lo' := [some (vr (49)), some (vi (((x : Nat) : Int))), some (vi (((y : Nat) : Int))), some (vi (z)), some (vi ((z * v) + (if k < 7 then T x y k else 0))), some (vi (((k : Nat) : Int) + (-1)))]) (dX9_at.at 29 rfl) rfl (by decide) rfl ?_
    refine sw_goto (tgt := 34) (dX9_at.at 30 rfl) (by decide) ?_
    exact hv

set_option maxHeartbeats 2000000 in
set_option maxRecDepth 20000 in
theorem g_X9_at_34e {G : GG} {j nw nx gn : Nat} {g : Nat → Sh} {c : Nat → Nat → Int} {post : Option AV → AM → Prop} {x : Nat} {y : Nat} {z : Int} {v : Int}  (hv : post (some (vi (v))) (S nw nx g, 78 + gn, c)) :
    SW G (j + 5) mX9_at 34 [some (vr (49)), some (vi (((x : Nat) : Int))), some (vi (((y : Nat) : Int))), some (vi (z)), some (vi (v)), some (vi ((-1)))] [] (S nw nx g, 78 + gn, c) B0 post := by
  refine sw_iload (dX9_at.at 17 rfl) rfl ?_
  refine sw_if_lt (tgt := 60) (dX9_at.at 18 rfl) (by decide) (by decide) (fun q => ?_) (fun q => ?_)
  · clear q
    refine sw_iload (dX9_at.at 31 rfl) rfl ?_
    exact sw_iret (dX9_at.at 32 rfl) rfl (Nat.le_refl _) (Nat.le_refl _) hv
  · exact absurd q (by decide)

set_option maxHeartbeats 2000000 in
theorem lp_X9_at_34 {G : GG} {j nw nx gn : Nat} {g : Nat → Sh} {c : Nat → Nat → Int} {post : Option AV → AM → Prop} {P : GD} {T : PT} {x y : Nat} {z : Int} (hM : ML c P) (hV : GV P) (hC : GC P) (hD : PD P T c) (hx : x < gN P) (hy : y < gN P) : ∀ (k : Nat) (v : Int), k ≤ 7 → post (some (vi (atG T x y z k v))) (S nw nx g, 78 + gn, c) → SW G (j + 5) mX9_at 34 [some (vr (49)), some (vi (((x : Nat) : Int))), some (vi (((y : Nat) : Int))), some (vi (z)), some (vi (v)), some (vi ((k : Int) - 1))] [] (S nw nx g, 78 + gn, c) B0 post := by
  intro k
  induction k with
  | zero =>
    intro v _ K
    have e : (((0 : Nat) : Int) - 1) = (-1) := by omega
    rw [e]
    exact g_X9_at_34e K
  | succ k ih =>
    intro v hk K
    have e : (((k + 1 : Nat) : Int) - 1) = ((k : Nat) : Int) := by omega
    have e2 : ((k : Nat) : Int) + (-1) = (k : Int) - 1 := by omega
    rw [e]
    rw [atG, Int.mul_comm] at K
    refine g_X9_at_34 hM hV hC hD ?_
    rw [e2, if_pos (show k < 7 by omega)]
    refine ⟨?_, ⟨fun q => ?_, fun q => ⟨?_, ?_, ?_, ?_⟩⟩⟩
    all_goals first | omega | assumption | (exfalso; omega) | exact ih _ (by omega) K
theorem at_87 {P : GD} {T : PT} (hV : GV P) (hG : GP P T) {v w : Nat} {z : Int} (hv : v < gN P) (hw : w < gN P) : atG T v w z 8 0 = atG T v w z 7 0 := by
  rw [atG, T_7 hV hG hv hw]; simp

set_option maxHeartbeats 2000000 in
set_option maxRecDepth 20000 in
theorem g_X9_at_0n {G : GG} {j nw nx gn : Nat} {g : Nat → Sh} {c : Nat → Nat → Int} {post : Option AV → AM → Prop} {x : Nat} {y : Nat} {w : Int} {P : GD} {T : PT} (hM : ML c P) (hV : GV P) (hC : GC P) (hG : GP P T) (hR : RR P T c)  (hv : (x < gN P) ∧ (y < gN P) ∧ (∀ c_1 : Nat → Nat → Int, (SD c c_1 ∧ RD P T c_1) → (-2147483648 ≤ w ∧ w < 2147483648) ∧ ((-9223372036854775808 ≤ (w : Int) ∧ (w : Int) < 9223372036854775808) ∧ (-9223372036854775808 ≤ ((-3) : Int) ∧ ((-3) : Int) < 9223372036854775808) ∧ (-9223372036854775808 ≤ (3 : Int) ∧ (3 : Int) < 9223372036854775808) ∧ ((((decide ((-3) ≤ w ∧ w ≤ 3)) = true) → SW G (j + 5) mX9_at 34 [some (vr (49)), some (vi (((x : Nat) : Int))), some (vi (((y : Nat) : Int))), some (vi (w)), some (vi (0)), some (vi (6))] [] (S nw nx g, 78 + gn, c_1) B0 post) ∧ (((decide ((-3) ≤ w ∧ w ≤ 3)) = false) → post (some (vi ((-1000000000)))) (S nw nx g, 78 + gn, c_1)))))) :
    SW G (j + 5) mX9_at 0 [some (vr (49)), some (vi (((x : Nat) : Int))), some (vi (((y : Nat) : Int))), some (vi (w)), none, none] [] (S nw nx g, 78 + gn, c) B0 post := by
  refine sw_aload_n (dX9_at.at 0 rfl) rfl rfl ?_
  refine sw_iload_n (dX9_at.at 1 rfl) rfl rfl ?_
  refine sw_iload_n (dX9_at.at 2 rfl) rfl rfl ?_
  refine sw_callV (B' := B0) (As := [vi (((x : Nat) : Int)), vi (((y : Nat) : Int))]) (mc := 0) (ms := 0) (dX9_at.at 3 rfl) lk_X9_308 (S_lt 49 (by decide)) (S_49 nw nx g) rfl rfl (Nat.le_of_ble_eq_true rfl) rfl (Nat.le_refl _) (Nat.le_refl _) ?_
  refine c_X9_arePairY (x := x) (y := y) (j := j + 0) hM hV hC hG hR hv.1 hv.2.1 (fun c_1 h_1 => ?_)
  replace hv := hv.2.2 c_1 h_1
  refine sw_if_eq (tgt := 23) (dX9_at.at 4 rfl) (by decide) (by decide) (fun q => ?_) (fun q => ?_)
  · exact absurd q (by decide)
  · clear q
    refine sw_iload_n (dX9_at.at 5 rfl) rfl rfl ?_
    refine sw_i2l (dX9_at.at 6 rfl) hv.1 ?_
    replace hv := hv.2
    refine sw_ldc2 (z := (-3)) (dX9_at.at 7 rfl) kc_X9_322 (by decide) ?_
    refine sw_ldc2 (z := 3) (dX9_at.at 8 rfl) kc_X9_324 (by decide) ?_
    refine sw_callS (post' := post) (B' := B0) (As := [vl (w), vl ((-3)), vl (3)]) (mc := 0) (ms := 0) (dX9_at.at 9 rfl) lk_X9_104 rfl rfl (Nat.le_of_ble_eq_true rfl) rfl (Nat.le_refl _) (Nat.le_refl _) ?_
    refine c_X9_in (u := w) (lo := (-3)) (hi := 3) (j := j + 4) hv.1 hv.2.1 hv.2.2.1 ?_
    replace hv := hv.2.2.2
    refine sw_if_ne (tgt := 27) (dX9_at.at 10 rfl) (by decide) (bz_rng _) (fun q => ?_) (fun q => ?_)
    · replace hv := hv.1 (bz_1 q)
      refine sw_iconst (dX9_at.at 13 rfl) ?_
      refine sw_istore (lo' := [some (vr (49)), some (vi (((x : Nat) : Int))), some (vi (((y : Nat) : Int))), some (vi (w)), some (vi (0)), none]) (dX9_at.at 14 rfl) (by decide) rfl ?_
      refine sw_bipush (dX9_at.at 15 rfl) (by decide) ?_
      refine sw_istore (lo' := [some (vr (49)), some (vi (((x : Nat) : Int))), some (vi (((y : Nat) : Int))), some (vi (w)), some (vi (0)), some (vi (6))]) (dX9_at.at 16 rfl) (by decide) rfl ?_
      exact hv
    · replace hv := hv.2 (bz_n1 q)
      refine sw_ldcw (z := (-1000000000)) (dX9_at.at 11 rfl) kc_X9_326 (by decide) ?_
      exact sw_iret (dX9_at.at 12 rfl) rfl (Nat.le_refl _) (Nat.le_refl _) hv

set_option maxHeartbeats 2000000 in
set_option maxRecDepth 20000 in
theorem g_X9_at_0 {G : GG} {j nw nx gn : Nat} {g : Nat → Sh} {c : Nat → Nat → Int} {post : Option AV → AM → Prop} {x : Int} {y : Int} {w : Int} {P : GD} {T : PT} (hM : ML c P) (hV : GV P) (hC : GC P) (hG : GP P T) (hR : RR P T c)  (hv : (-2147483648 ≤ x ∧ x < 2147483648) ∧ (-2147483648 ≤ y ∧ y < 2147483648) ∧ (∀ c_1 : Nat → Nat → Int, (SD c c_1 ∧ RR P T c_1) → (((decide ((0 ≤ x ∧ x < (gN P : Int)) ∧ 0 ≤ y ∧ y < (gN P : Int))) = false) → post (some (vi ((-1000000000)))) (S nw nx g, 78 + gn, c_1)) ∧ (((decide ((0 ≤ x ∧ x < (gN P : Int)) ∧ 0 ≤ y ∧ y < (gN P : Int))) = true) → (-2147483648 ≤ w ∧ w < 2147483648) ∧ ((-9223372036854775808 ≤ (w : Int) ∧ (w : Int) < 9223372036854775808) ∧ (-9223372036854775808 ≤ ((-3) : Int) ∧ ((-3) : Int) < 9223372036854775808) ∧ (-9223372036854775808 ≤ (3 : Int) ∧ (3 : Int) < 9223372036854775808) ∧ ((((decide ((-3) ≤ w ∧ w ≤ 3)) = true) → SW G (j + 5) mX9_at 34 [some (vr (49)), some (vi (x)), some (vi (y)), some (vi (w)), some (vi (0)), some (vi (6))] [] (S nw nx g, 78 + gn, c_1) B0 post) ∧ (((decide ((-3) ≤ w ∧ w ≤ 3)) = false) → post (some (vi ((-1000000000)))) (S nw nx g, 78 + gn, c_1))))))) :
    SW G (j + 5) mX9_at 0 [some (vr (49)), some (vi (x)), some (vi (y)), some (vi (w)), none, none] [] (S nw nx g, 78 + gn, c) B0 post := by
  refine sw_aload_n (dX9_at.at 0 rfl) rfl rfl ?_
  refine sw_iload_n (dX9_at.at 1 rfl) rfl rfl ?_
  refine sw_iload_n (dX9_at.at 2 rfl) rfl rfl ?_
  refine sw_callV (B' := B0) (As := [vi (x), vi (y)]) (mc := 0) (ms := 0) (dX9_at.at 3 rfl) lk_X9_308 (S_lt 49 (by decide)) (S_49 nw nx g) rfl rfl (Nat.le_of_ble_eq_true rfl) rfl (Nat.le_refl _) (Nat.le_refl _) ?_
  refine c_X9_arePairG (x := x) (y := y) (j := j + 0) hM hV hC hG hR hv.1 hv.2.1 (fun c_1 h_1 => ?_)
  replace hv := hv.2.2 c_1 h_1
  refine sw_if_eq (tgt := 23) (dX9_at.at 4 rfl) (by decide) (bz_rng _) (fun q => ?_) (fun q => ?_)
  · replace hv := hv.1 (bz_0 q)
    refine sw_ldcw (z := (-1000000000)) (dX9_at.at 11 rfl) kc_X9_326 (by decide) ?_
    exact sw_iret (dX9_at.at 12 rfl) rfl (Nat.le_refl _) (Nat.le_refl _) hv
  · replace hv := hv.2 (bz_n0 q)
    refine sw_iload_n (dX9_at.at 5 rfl) rfl rfl ?_
    refine sw_i2l (dX9_at.at 6 rfl) hv.1 ?_
    replace hv := hv.2
    refine sw_ldc2 (z := (-3)) (dX9_at.at 7 rfl) kc_X9_322 (by decide) ?_
    refine sw_ldc2 (z := 3) (dX9_at.at 8 rfl) kc_X9_324 (by decide) ?_
    refine sw_callS (post' := post) (B' := B0) (As := [vl (w), vl ((-3)), vl (3)]) (mc := 0) (ms := 0) (dX9_at.at 9 rfl) lk_X9_104 rfl rfl (Nat.le_of_ble_eq_true rfl) rfl (Nat.le_refl _) (Nat.le_refl _) ?_
    refine c_X9_in (u := w) (lo := (-3)) (hi := 3) (j := j + 4) hv.1 hv.2.1 hv.2.2.1 ?_
    replace hv := hv.2.2.2
    refine sw_if_ne (tgt := 27) (dX9_at.at 10 rfl) (by decide) (bz_rng _) (fun q => ?_) (fun q => ?_)
    · replace hv := hv.1 (bz_1 q)
      refine sw_iconst (dX9_at.at 13 rfl) ?_
      refine sw_istore (lo' := [some (vr (49)), some (vi (x)), some (vi (y)), some (vi (w)), some (vi (0)), none]) (dX9_at.at 14 rfl) (by decide) rfl ?_
      refine sw_bipush (dX9_at.at 15 rfl) (by decide) ?_
      refine sw_istore (lo' := [some (vr (49)), some (vi (x)), some (vi (y)), some (vi (w)), some (vi (0)), some (vi (6))]) (dX9_at.at 16 rfl) (by decide) rfl ?_
      exact hv
    · replace hv := hv.2 (bz_n1 q)
      refine sw_ldcw (z := (-1000000000)) (dX9_at.at 11 rfl) kc_X9_326 (by decide) ?_
      exact sw_iret (dX9_at.at 12 rfl) rfl (Nat.le_refl _) (Nat.le_refl _) hv

set_option maxHeartbeats 4000000 in
theorem c_X9_at {G : GG} {j nw nx gn : Nat} {g : Nat → Sh} {c : Nat → Nat → Int} {post : Option AV → AM → Prop} {P : GD} {T : PT} {x y w : Int} (hM : ML c P) (hV : GV P) (hC : GC P) (hG : GP P T) (hR : RR P T c) (p1 : -2147483648 ≤ x ∧ x < 2147483648) (p2 : -2147483648 ≤ y ∧ y < 2147483648) (p3 : -2147483648 ≤ w ∧ w < 2147483648) (K : ∀ c2 : Nat → Nat → Int, (SD c c2 ∧ RR P T c2) → post (some (vi (q_at P T x y w))) (S nw nx g, 78 + gn, c2)) : SM G (j + 6) mX9_at [vr (49), vi (x), vi (y), vi (w)] (S nw nx g, 78 + gn, c) 0 0 post := by
  refine sm_of wX9_at rfl (Nat.le_of_ble_eq_true rfl) ?_
  have hN60 := GV_N hV
  have hR5 := GV_R hV
  by_cases hv : ((0 ≤ x ∧ x < (gN P : Int)) ∧ 0 ≤ y ∧ y < (gN P : Int)) ∧ -3 ≤ w ∧ w ≤ 3
  · obtain ⟨x, rfl⟩ : ∃ n : Nat, x = (n : Int) := ⟨x.toNat, by omega⟩
    obtain ⟨y, rfl⟩ : ∃ n : Nat, y = (n : Int) := ⟨y.toNat, by omega⟩
    have e : q_at P T ((x : Nat) : Int) ((y : Nat) : Int) w = atG T x y w 8 0 := by
      rw [q_at, if_pos hv]
      simp only [Int.toNat_natCast]
    rw [e] at K
    have K1 : ∀ (z : Int) (c2 : Nat → Nat → Int), ((SD c c2 ∧ RR P T c2)) → z = (atG T x y w 8 0) → post (some (vi z)) (S nw nx g, 78 + gn, c2) := fun z c2 h e9 => e9 ▸ K c2 h
    have e9 := at_87 hV hG (z := w) (show x < gN P by omega) (show y < gN P by omega)
    rw [e9] at K
    refine g_X9_at_0n hM hV hC hG hR ?_
    refine ⟨?_, ?_, fun c_1 h_1 => ⟨?_, ⟨?_, ?_, ?_, ⟨fun q => ?_, fun q => ?_⟩⟩⟩⟩
    all_goals first | omega | assumption | (exfalso; simp only [decide_eq_true_eq, decide_eq_false_iff_not] at *; omega) | exact lp_X9_at_34 (ML_SD hM h_1.1) hV hC h_1.2.2 (by omega) (by omega) 7 0 (by omega) (K c_1 ⟨h_1.1, Or.inr h_1.2⟩) | exact K _ (by first | exact ⟨SD_rf, hR⟩ | exact ⟨h_1.1, Or.inr h_1.2⟩ | assumption | exact ⟨SD_tr h_1.1 (SD_SC h_2), Or.inr (RD_SC h_1.2 h_2)⟩ | exact ⟨SD_tr h_1.1 (SD_SC (SC_tr h_2 h_3)), Or.inr (RD_SC h_1.2 (SC_tr h_2 h_3))⟩) | (refine K1 _ _ (by first | exact ⟨SD_rf, hR⟩ | exact ⟨h_1.1, Or.inr h_1.2⟩ | assumption | exact ⟨SD_tr h_1.1 (SD_SC h_2), Or.inr (RD_SC h_1.2 h_2)⟩ | exact ⟨SD_tr h_1.1 (SD_SC (SC_tr h_2 h_3)), Or.inr (RD_SC h_1.2 (SC_tr h_2 h_3))⟩) ?_; first | rfl | (simp [bz, *]; done) | (split <;> first | rfl | omega))
  · have e : q_at P T x y w = (-1000000000) := by rw [q_at, if_neg hv]
    rw [e] at K
    have K1 : ∀ (z : Int) (c2 : Nat → Nat → Int), ((SD c c2 ∧ RR P T c2)) → z = ((-1000000000)) → post (some (vi z)) (S nw nx g, 78 + gn, c2) := fun z c2 h e9 => e9 ▸ K c2 h
    refine g_X9_at_0 hM hV hC hG hR ?_
    refine ⟨?_, ?_, fun c_1 h_1 => ⟨fun q => ?_, fun q => ⟨?_, ⟨?_, ?_, ?_, ⟨fun q => ?_, fun q => ?_⟩⟩⟩⟩⟩
    all_goals first | omega | assumption | (exfalso; simp only [decide_eq_true_eq, decide_eq_false_iff_not] at *; omega) | exact K _ (by first | exact ⟨SD_rf, hR⟩ | exact ⟨h_1.1, Or.inr h_1.2⟩ | assumption | exact ⟨SD_tr h_1.1 (SD_SC h_2), Or.inr (RD_SC h_1.2 h_2)⟩ | exact ⟨SD_tr h_1.1 (SD_SC (SC_tr h_2 h_3)), Or.inr (RD_SC h_1.2 (SC_tr h_2 h_3))⟩) | (refine K1 _ _ (by first | exact ⟨SD_rf, hR⟩ | exact ⟨h_1.1, Or.inr h_1.2⟩ | assumption | exact ⟨SD_tr h_1.1 (SD_SC h_2), Or.inr (RD_SC h_1.2 h_2)⟩ | exact ⟨SD_tr h_1.1 (SD_SC (SC_tr h_2 h_3)), Or.inr (RD_SC h_1.2 (SC_tr h_2 h_3))⟩) ?_; first | rfl | (simp [bz, *]; done) | (split <;> first | rfl | omega))

set_option maxHeartbeats 2000000 in
set_option maxRecDepth 20000 in
theorem g_X9_q_0n {G : GG} {j nw nx gn : Nat} {g : Nat → Sh} {c : Nat → Nat → Int} {post : Option AV → AM → Prop} {x : Nat} {y : Nat} {k : Nat} {P : GD} {T : PT} (hM : ML c P) (hV : GV P) (hC : GC P) (hG : GP P T) (hR : RR P T c)  (hv : (x < gN P) ∧ (y < gN P) ∧ (∀ c_1 : Nat → Nat → Int, (SD c c_1 ∧ RD P T c_1) → (k < 2147483648) ∧ (((((k : Nat) : Int) < 0) → post (some (vi ((-1000000)))) (S nw nx g, 78 + gn, c_1)) ∧ ((¬ (((k : Nat) : Int) < 0)) → ((gN P - 1) < gN P) ∧ (y < gN P) ∧ (∀ c_2 : Nat → Nat → Int, SC c_1 c_2 → ((gN P - 1) < gN P) ∧ (x < gN P) ∧ (∀ c_3 : Nat → Nat → Int, SC c_2 c_3 → ((gX P (gN P - 1) y) < gN P) ∧ ((gX P (gN P - 1) x) < gN P) ∧ (k < 2147483648) ∧ (post (some (vi ((if k < 7 then T (gX P (gN P - 1) y) (gX P (gN P - 1) x) k else 0)))) (S nw nx g, 78 + gn, c_3)))))))) :
    SW G (j + 5) mX9_q 0 [some (vr (49)), some (vi (((x : Nat) : Int))), some (vi (((y : Nat) : Int))), some (vi (((k : Nat) : Int)))] [] (S nw nx g, 78 + gn, c) B0 post := by
  refine sw_aload_n (dX9_q.at 0 rfl) rfl rfl ?_
  refine sw_iload_n (dX9_q.at 1 rfl) rfl rfl ?_
  refine sw_iload_n (dX9_q.at 2 rfl) rfl rfl ?_
  refine sw_callV (B' := B0) (As := [vi (((x : Nat) : Int)), vi (((y : Nat) : Int))]) (mc := 0) (ms := 0) (dX9_q.at 3 rfl) lk_X9_308 (S_lt 49 (by decide)) (S_49 nw nx g) rfl rfl (Nat.le_of_ble_eq_true rfl) rfl (Nat.le_refl _) (Nat.le_refl _) ?_
  refine c_X9_arePairY (x := x) (y := y) (j := j + 0) hM hV hC hG hR hv.1 hv.2.1 (fun c_1 h_1 => ?_)
  replace hv := hv.2.2 c_1 h_1
  refine sw_if_eq (tgt := 39) (dX9_q.at 4 rfl) (by decide) (by decide) (fun q => ?_) (fun q => ?_)
  · exact absurd q (by decide)
  · clear q
    refine sw_iload_n (dX9_q.at 5 rfl) rfl rfl ?_
    refine sw_if_lt (tgt := 39) (dX9_q.at 6 rfl) (by decide) (nrng hv.1) (fun q => ?_) (fun q => ?_)
    · replace hv := hv.2.1 q
      refine sw_ldcw (z := (-1000000)) (dX9_q.at 21 rfl) kc_X9_318 (by decide) ?_
      exact sw_iret (dX9_q.at 22 rfl) rfl (Nat.le_refl _) (Nat.le_refl _) hv
    · replace hv := hv.2.2 q
      refine sw_aload_n (dX9_q.at 7 rfl) rfl rfl ?_
      refine sw_aload_n (dX9_q.at 8 rfl) rfl rfl ?_
      refine sw_aload_n (dX9_q.at 9 rfl) rfl rfl ?_
      refine sw_getIE (w := ((gN P - 1 : Nat) : Int)) (dX9_q.at 10 rfl) fp_X9_218 (S_lt 49 (by decide)) (S_49 nw nx g) rfl (ML_SD hM (SD_tr SD_rf h_1.1)).1.2.2.2.1 ?_
      refine sw_iload_n (dX9_q.at 11 rfl) rfl rfl ?_
      refine sw_callV (B' := B0) (As := [vi (((gN P - 1 : Nat) : Int)), vi (((y : Nat) : Int))]) (mc := 0) (ms := 0) (dX9_q.at 12 rfl) lk_X9_237 (S_lt 49 (by decide)) (S_49 nw nx g) rfl rfl (Nat.le_of_ble_eq_true rfl) rfl (Nat.le_refl _) (Nat.le_refl _) ?_
      refine c_X9_product (x := (gN P - 1)) (y := y) (j := j + 3) (ML_SD hM (SD_tr SD_rf h_1.1)) hV hC hv.1 hv.2.1 (fun c_2 h_2 => ?_)
      replace hv := hv.2.2 c_2 h_2
      refine sw_aload_n (dX9_q.at 13 rfl) rfl rfl ?_
      refine sw_aload_n (dX9_q.at 14 rfl) rfl rfl ?_
      refine sw_getIE (w := ((gN P - 1 : Nat) : Int)) (dX9_q.at 15 rfl) fp_X9_218 (S_lt 49 (by decide)) (S_49 nw nx g) rfl (ML_SD hM (SD_tr (SD_tr SD_rf h_1.1) (SD_SC h_2))).1.2.2.2.1 ?_
      refine sw_iload_n (dX9_q.at 16 rfl) rfl rfl ?_
      refine sw_callV (B' := B0) (As := [vi (((gN P - 1 : Nat) : Int)), vi (((x : Nat) : Int))]) (mc := 0) (ms := 0) (dX9_q.at 17 rfl) lk_X9_237 (S_lt 49 (by decide)) (S_49 nw nx g) rfl rfl (Nat.le_of_ble_eq_true rfl) rfl (Nat.le_refl _) (Nat.le_refl _) ?_
      refine c_X9_product (x := (gN P - 1)) (y := x) (j := j + 3) (ML_SD hM (SD_tr (SD_tr SD_rf h_1.1) (SD_SC h_2))) hV hC hv.1 hv.2.1 (fun c_3 h_3 => ?_)
      replace hv := hv.2.2 c_3 h_3
      refine sw_iload_n (dX9_q.at 18 rfl) rfl rfl ?_
      refine sw_callV (B' := B0) (As := [vi (((gX P (gN P - 1) y : Nat) : Int)), vi (((gX P (gN P - 1) x : Nat) : Int)), vi (((k : Nat) : Int))]) (mc := 0) (ms := 0) (dX9_q.at 19 rfl) lk_X9_292 (S_lt 49 (by decide)) (S_49 nw nx g) rfl rfl (Nat.le_of_ble_eq_true rfl) rfl (Nat.le_refl _) (Nat.le_refl _) ?_
      refine c_X9_pAtD (v := (gX P (gN P - 1) y)) (w := (gX P (gN P - 1) x)) (k := k) (j := j + 3) (ML_SD hM (SD_tr (SD_tr (SD_tr SD_rf h_1.1) (SD_SC h_2)) (SD_SC h_3))) hV hC (PD_SC (PD_SC h_1.2.2 h_2) h_3) hv.1 hv.2.1 hv.2.2.1 ?_
      replace hv := hv.2.2.2
      refine sw_goto (tgt := 42) (dX9_q.at 20 rfl) (by decide) ?_
      exact sw_iret (dX9_q.at 22 rfl) rfl (Nat.le_refl _) (Nat.le_refl _) hv

set_option maxHeartbeats 2000000 in
set_option maxRecDepth 20000 in
theorem g_X9_q_0 {G : GG} {j nw nx gn : Nat} {g : Nat → Sh} {c : Nat → Nat → Int} {post : Option AV → AM → Prop} {x : Int} {y : Int} {k : Int} {P : GD} {T : PT} (hM : ML c P) (hV : GV P) (hC : GC P) (hG : GP P T) (hR : RR P T c)  (hv : (-2147483648 ≤ x ∧ x < 2147483648) ∧ (-2147483648 ≤ y ∧ y < 2147483648) ∧ (∀ c_1 : Nat → Nat → Int, (SD c c_1 ∧ RR P T c_1) → (((decide ((0 ≤ x ∧ x < (gN P : Int)) ∧ 0 ≤ y ∧ y < (gN P : Int))) = false) → post (some (vi ((-1000000)))) (S nw nx g, 78 + gn, c_1)) ∧ (((decide ((0 ≤ x ∧ x < (gN P : Int)) ∧ 0 ≤ y ∧ y < (gN P : Int))) = true) → (-2147483648 ≤ k ∧ k < 2147483648) ∧ (((k < 0) → post (some (vi ((-1000000)))) (S nw nx g, 78 + gn, c_1)) ∧ ((¬ (k < 0)) → SW G (j + 5) mX9_q 20 [some (vr (49)), some (vi (x)), some (vi (y)), some (vi (k))] [vi (y), vi (((gN P - 1 : Nat) : Int)), vr (49), vr (49)] (S nw nx g, 78 + gn, c_1) B0 post))))) :
    SW G (j + 5) mX9_q 0 [some (vr (49)), some (vi (x)), some (vi (y)), some (vi (k))] [] (S nw nx g, 78 + gn, c) B0 post := by
  refine sw_aload_n (dX9_q.at 0 rfl) rfl rfl ?_
  refine sw_iload_n (dX9_q.at 1 rfl) rfl rfl ?_
  refine sw_iload_n (dX9_q.at 2 rfl) rfl rfl ?_
  refine sw_callV (B' := B0) (As := [vi (x), vi (y)]) (mc := 0) (ms := 0) (dX9_q.at 3 rfl) lk_X9_308 (S_lt 49 (by decide)) (S_49 nw nx g) rfl rfl (Nat.le_of_ble_eq_true rfl) rfl (Nat.le_refl _) (Nat.le_refl _) ?_
  refine c_X9_arePairG (x := x) (y := y) (j := j + 0) hM hV hC hG hR hv.1 hv.2.1 (fun c_1 h_1 => ?_)
  replace hv := hv.2.2 c_1 h_1
  refine sw_if_eq (tgt := 39) (dX9_q.at 4 rfl) (by decide) (bz_rng _) (fun q => ?_) (fun q => ?_)
  · replace hv := hv.1 (bz_0 q)
    refine sw_ldcw (z := (-1000000)) (dX9_q.at 21 rfl) kc_X9_318 (by decide) ?_
    exact sw_iret (dX9_q.at 22 rfl) rfl (Nat.le_refl _) (Nat.le_refl _) hv
  · replace hv := hv.2 (bz_n0 q)
    refine sw_iload_n (dX9_q.at 5 rfl) rfl rfl ?_
    refine sw_if_lt (tgt := 39) (dX9_q.at 6 rfl) (by decide) hv.1 (fun q => ?_) (fun q => ?_)
    · replace hv := hv.2.1 q
      refine sw_ldcw (z := (-1000000)) (dX9_q.at 21 rfl) kc_X9_318 (by decide) ?_
      exact sw_iret (dX9_q.at 22 rfl) rfl (Nat.le_refl _) (Nat.le_refl _) hv
    · replace hv := hv.2.2 q
      refine sw_aload_n (dX9_q.at 7 rfl) rfl rfl ?_
      refine sw_aload_n (dX9_q.at 8 rfl) rfl rfl ?_
      refine sw_aload_n (dX9_q.at 9 rfl) rfl rfl ?_
      refine sw_getIE (w := ((gN P - 1 : Nat) : Int)) (dX9_q.at 10 rfl) fp_X9_218 (S_lt 49 (by decide)) (S_49 nw nx g) rfl (ML_SD hM (SD_tr SD_rf h_1.1)).1.2.2.2.1 ?_
      refine sw_iload_n (dX9_q.at 11 rfl) rfl rfl ?_
      exact hv

set_option maxHeartbeats 4000000 in
theorem c_X9_q {G : GG} {j nw nx gn : Nat} {g : Nat → Sh} {c : Nat → Nat → Int} {post : Option AV → AM → Prop} {P : GD} {T : PT} {x y k : Int} (hM : ML c P) (hV : GV P) (hC : GC P) (hG : GP P T) (hR : RR P T c) (p1 : -2147483648 ≤ x ∧ x < 2147483648) (p2 : -2147483648 ≤ y ∧ y < 2147483648) (p3 : -2147483648 ≤ k ∧ k < 2147483648) (K : ∀ c2 : Nat → Nat → Int, (SD c c2 ∧ RR P T c2) → post (some (vi (q_q P T x y k))) (S nw nx g, 78 + gn, c2)) : SM G (j + 6) mX9_q [vr (49), vi (x), vi (y), vi (k)] (S nw nx g, 78 + gn, c) 0 0 post := by
  refine sm_of wX9_q rfl (Nat.le_of_ble_eq_true rfl) ?_
  have hN60 := GV_N hV
  have hR5 := GV_R hV
  by_cases hv : ((0 ≤ x ∧ x < (gN P : Int)) ∧ 0 ≤ y ∧ y < (gN P : Int)) ∧ 0 ≤ k
  · obtain ⟨x, rfl⟩ : ∃ n : Nat, x = (n : Int) := ⟨x.toNat, by omega⟩
    obtain ⟨y, rfl⟩ : ∃ n : Nat, y = (n : Int) := ⟨y.toNat, by omega⟩
    obtain ⟨k, rfl⟩ : ∃ n : Nat, k = (n : Int) := ⟨k.toNat, by omega⟩
    have e : q_q P T ((x : Nat) : Int) ((y : Nat) : Int) ((k : Nat) : Int) = if k < 8 then T (gX P (gN P - 1) y) (gX P (gN P - 1) x) k else 0 := by
      rw [q_q, if_pos hv]
      simp only [Int.toNat_natCast]
    rw [e] at K
    have K1 : ∀ (z : Int) (c2 : Nat → Nat → Int), ((SD c c2 ∧ RR P T c2)) → z = (if k < 8 then T (gX P (gN P - 1) y) (gX P (gN P - 1) x) k else 0) → post (some (vi z)) (S nw nx g, 78 + gn, c2) := fun z c2 h e9 => e9 ▸ K c2 h
    have f1 := hV.2.2.2.2.1 (gN P - 1) x (by omega) (by omega)
    have f2 := hV.2.2.2.2.1 (gN P - 1) y (by omega) (by omega)
    refine g_X9_q_0n hM hV hC hG hR ?_
    refine ⟨?_, ?_, fun c_1 h_1 => ⟨?_, ⟨fun q => ?_, fun q => ⟨?_, ?_, fun c_2 h_2 => ⟨?_, ?_, fun c_3 h_3 => ⟨?_, ?_, ?_, ?_⟩⟩⟩⟩⟩⟩
    all_goals first | omega | assumption | (exfalso; simp only [decide_eq_true_eq, decide_eq_false_iff_not] at *; omega) | (rw [T_78 hV hG f2 f1]; exact K _ (by first | exact ⟨SD_rf, hR⟩ | exact ⟨h_1.1, Or.inr h_1.2⟩ | assumption | exact ⟨SD_tr h_1.1 (SD_SC h_2), Or.inr (RD_SC h_1.2 h_2)⟩ | exact ⟨SD_tr h_1.1 (SD_SC (SC_tr h_2 h_3)), Or.inr (RD_SC h_1.2 (SC_tr h_2 h_3))⟩)) | exact K _ (by first | exact ⟨SD_rf, hR⟩ | exact ⟨h_1.1, Or.inr h_1.2⟩ | assumption | exact ⟨SD_tr h_1.1 (SD_SC h_2), Or.inr (RD_SC h_1.2 h_2)⟩ | exact ⟨SD_tr h_1.1 (SD_SC (SC_tr h_2 h_3)), Or.inr (RD_SC h_1.2 (SC_tr h_2 h_3))⟩) | (refine K1 _ _ (by first | exact ⟨SD_rf, hR⟩ | exact ⟨h_1.1, Or.inr h_1.2⟩ | assumption | exact ⟨SD_tr h_1.1 (SD_SC h_2), Or.inr (RD_SC h_1.2 h_2)⟩ | exact ⟨SD_tr h_1.1 (SD_SC (SC_tr h_2 h_3)), Or.inr (RD_SC h_1.2 (SC_tr h_2 h_3))⟩) ?_; first | rfl | (simp [bz, *]; done) | (split <;> first | rfl | omega))
  · have e : q_q P T x y k = (-1000000) := by rw [q_q, if_neg hv]
    rw [e] at K
    have K1 : ∀ (z : Int) (c2 : Nat → Nat → Int), ((SD c c2 ∧ RR P T c2)) → z = ((-1000000)) → post (some (vi z)) (S nw nx g, 78 + gn, c2) := fun z c2 h e9 => e9 ▸ K c2 h
    refine g_X9_q_0 hM hV hC hG hR ?_
    refine ⟨?_, ?_, fun c_1 h_1 => ⟨fun q => ?_, fun q => ⟨?_, ⟨fun q => ?_, fun q => ?_⟩⟩⟩⟩
    all_goals first | omega | assumption | (exfalso; simp only [decide_eq_true_eq, decide_eq_false_iff_not] at *; omega) | exact K _ (by first | exact ⟨SD_rf, hR⟩ | exact ⟨h_1.1, Or.inr h_1.2⟩ | assumption | exact ⟨SD_tr h_1.1 (SD_SC h_2), Or.inr (RD_SC h_1.2 h_2)⟩ | exact ⟨SD_tr h_1.1 (SD_SC (SC_tr h_2 h_3)), Or.inr (RD_SC h_1.2 (SC_tr h_2 h_3))⟩) | (refine K1 _ _ (by first | exact ⟨SD_rf, hR⟩ | exact ⟨h_1.1, Or.inr h_1.2⟩ | assumption | exact ⟨SD_tr h_1.1 (SD_SC h_2), Or.inr (RD_SC h_1.2 h_2)⟩ | exact ⟨SD_tr h_1.1 (SD_SC (SC_tr h_2 h_3)), Or.inr (RD_SC h_1.2 (SC_tr h_2 h_3))⟩) ?_; first | rfl | (simp [bz, *]; done) | (split <;> first | rfl | omega))

