abbrev CE (P : GD) (T : PT) (kd : Nat) (c : Nat → Nat → Int) : Prop := ∀ y, y < gN P → c 68 y = ((RC P T kd y : Nat) : Int)
set_option maxHeartbeats 2000000 in
set_option maxRecDepth 20000 in
theorem g_X9_isCellAsked_n {G : GG} {j nw nx gn : Nat} {g : Nat → Sh} {c : Nat → Nat → Int} {post : Option AV → AM → Prop} {x : Nat} {kd : Nat} {P : GD} {T : PT} (hM : ML c P) (hV : GV P) (hC : GC P) (hG : GP P T) (hR : RR P T c) (hT : HT P T)  (hv : (-2147483648 ≤ ((x : Nat) : Int) ∧ ((x : Nat) : Int) < 2147483648) ∧ ((((decide (0 ≤ ((x : Nat) : Int) ∧ ((x : Nat) : Int) < (gN P : Int))) = false) → post (some (vi (0))) (S nw nx g, 78 + gn, c)) ∧ (((decide (0 ≤ ((x : Nat) : Int) ∧ ((x : Nat) : Int) < (gN P : Int))) = true) → (kd < 2147483648) ∧ ((-9223372036854775808 ≤ (((kd : Nat) : Int) : Int) ∧ (((kd : Nat) : Int) : Int) < 9223372036854775808) ∧ (-9223372036854775808 ≤ (0 : Int) ∧ (0 : Int) < 9223372036854775808) ∧ (-9223372036854775808 ≤ (2 : Int) ∧ (2 : Int) < 9223372036854775808) ∧ ((((decide (0 ≤ ((kd : Nat) : Int) ∧ ((kd : Nat) : Int) ≤ 2)) = true) → (kd < 3) ∧ (∀ c_1 : Nat → Nat → Int, (SD c c_1 ∧ RD P T c_1 ∧ CE P T kd c_1) → post (some (vi (1))) (S nw nx g, 78 + gn, c_1))) ∧ (((decide (0 ≤ ((kd : Nat) : Int) ∧ ((kd : Nat) : Int) ≤ 2)) = false) → post (some (vi (0))) (S nw nx g, 78 + gn, c))))))) :
    SW G (j + 5) mX9_isCellAsked 0 [some (vr (49)), some (vi (((x : Nat) : Int))), some (vi (((kd : Nat) : Int)))] [] (S nw nx g, 78 + gn, c) B0 post := by
  refine sw_aload_n (dX9_isCellAsked.at 0 rfl) rfl rfl ?_
  refine sw_iload_n (dX9_isCellAsked.at 1 rfl) rfl rfl ?_
  refine sw_callV (B' := B0) (As := [vi (((x : Nat) : Int))]) (mc := 0) (ms := 0) (dX9_isCellAsked.at 2 rfl) lk_X9_251 (S_lt 49 (by decide)) (S_49 nw nx g) rfl rfl (Nat.le_of_ble_eq_true rfl) rfl (Nat.le_refl _) (Nat.le_refl _) ?_
  refine c_X9_isElement (x := ((x : Nat) : Int)) (j := j + 3) hM hV hv.1 ?_
  replace hv := hv.2
  refine sw_if_eq (tgt := 20) (dX9_isCellAsked.at 3 rfl) (by decide) (bz_rng _) (fun q => ?_) (fun q => ?_)
  · replace hv := hv.1 (bz_0 q)
    refine sw_iconst (dX9_isCellAsked.at 10 rfl) ?_
    exact sw_zret (dX9_isCellAsked.at 11 rfl) rfl (by decide) (Nat.le_refl _) (Nat.le_refl _) hv
  · replace hv := hv.2 (bz_n0 q)
    refine sw_iload_n (dX9_isCellAsked.at 4 rfl) rfl rfl ?_
    refine sw_i2l (dX9_isCellAsked.at 5 rfl) (nrng hv.1) ?_
    replace hv := hv.2
    refine sw_lconst (z := 0) (dX9_isCellAsked.at 6 rfl) (by decide) ?_
    refine sw_ldc2 (z := 2) (dX9_isCellAsked.at 7 rfl) kc_X9_342 (by decide) ?_
    refine sw_callS (post' := post) (B' := B0) (As := [vl (((kd : Nat) : Int)), vl (0), vl (2)]) (mc := 0) (ms := 0) (dX9_isCellAsked.at 8 rfl) lk_X9_104 rfl rfl (Nat.le_of_ble_eq_true rfl) rfl (Nat.le_refl _) (Nat.le_refl _) ?_
    refine c_X9_in (u := ((kd : Nat) : Int)) (lo := 0) (hi := 2) (j := j + 4) hv.1 hv.2.1 hv.2.2.1 ?_
    replace hv := hv.2.2.2
    refine sw_if_ne (tgt := 22) (dX9_isCellAsked.at 9 rfl) (by decide) (bz_rng _) (fun q => ?_) (fun q => ?_)
    · replace hv := hv.1 (bz_1 q)
      refine sw_aload_n (dX9_isCellAsked.at 12 rfl) rfl rfl ?_
      refine sw_iload_n (dX9_isCellAsked.at 13 rfl) rfl rfl ?_
      refine sw_callV (B' := B0) (As := [vi (((kd : Nat) : Int))]) (mc := 0) (ms := 0) (dX9_isCellAsked.at 14 rfl) lk_X9_344 (S_lt 49 (by decide)) (S_49 nw nx g) rfl rfl (Nat.le_of_ble_eq_true rfl) rfl (Nat.le_refl _) (Nat.le_refl _) ?_
      refine c_X9_laysReach (T := T) (kd := kd) (j := j + 0) hM hV hC hG hR hT hv.1 (fun c_1 h_1 => ?_)
      replace hv := hv.2 c_1 h_1
      refine sw_iconst (dX9_isCellAsked.at 15 rfl) ?_
      exact sw_zret (dX9_isCellAsked.at 16 rfl) rfl (by decide) (Nat.le_refl _) (Nat.le_refl _) hv
    · replace hv := hv.2 (bz_n1 q)
      refine sw_iconst (dX9_isCellAsked.at 10 rfl) ?_
      exact sw_zret (dX9_isCellAsked.at 11 rfl) rfl (by decide) (Nat.le_refl _) (Nat.le_refl _) hv

set_option maxHeartbeats 2000000 in
set_option maxRecDepth 20000 in
theorem g_X9_isCellAsked_0 {G : GG} {j nw nx gn : Nat} {g : Nat → Sh} {c : Nat → Nat → Int} {post : Option AV → AM → Prop} {x : Int} {kd : Int} {P : GD} {T : PT} (hM : ML c P) (hV : GV P) (hC : GC P) (hG : GP P T) (hR : RR P T c) (hT : HT P T)  (hv : (-2147483648 ≤ x ∧ x < 2147483648) ∧ ((((decide (0 ≤ x ∧ x < (gN P : Int))) = false) → post (some (vi (0))) (S nw nx g, 78 + gn, c)) ∧ (((decide (0 ≤ x ∧ x < (gN P : Int))) = true) → (-2147483648 ≤ kd ∧ kd < 2147483648) ∧ ((-9223372036854775808 ≤ (kd : Int) ∧ (kd : Int) < 9223372036854775808) ∧ (-9223372036854775808 ≤ (0 : Int) ∧ (0 : Int) < 9223372036854775808) ∧ (-9223372036854775808 ≤ (2 : Int) ∧ (2 : Int) < 9223372036854775808) ∧ ((((decide (0 ≤ kd ∧ kd ≤ 2)) = true) → SW G (j + 5) mX9_isCellAsked 24 [some (vr (49)), some (vi (x)), some (vi (kd))] [vi (kd), vr (49)] (S nw nx g, 78 + gn, c) B0 post) ∧ (((decide (0 ≤ kd ∧ kd ≤ 2)) = false) → post (some (vi (0))) (S nw nx g, 78 + gn, c))))))) :
    SW G (j + 5) mX9_isCellAsked 0 [some (vr (49)), some (vi (x)), some (vi (kd))] [] (S nw nx g, 78 + gn, c) B0 post := by
  refine sw_aload_n (dX9_isCellAsked.at 0 rfl) rfl rfl ?_
  refine sw_iload_n (dX9_isCellAsked.at 1 rfl) rfl rfl ?_
  refine sw_callV (B' := B0) (As := [vi (x)]) (mc := 0) (ms := 0) (dX9_isCellAsked.at 2 rfl) lk_X9_251 (S_lt 49 (by decide)) (S_49 nw nx g) rfl rfl (Nat.le_of_ble_eq_true rfl) rfl (Nat.le_refl _) (Nat.le_refl _) ?_
  refine c_X9_isElement (x := x) (j := j + 3) hM hV hv.1 ?_
  replace hv := hv.2
  refine sw_if_eq (tgt := 20) (dX9_isCellAsked.at 3 rfl) (by decide) (bz_rng _) (fun q => ?_) (fun q => ?_)
  · replace hv := hv.1 (bz_0 q)
    refine sw_iconst (dX9_isCellAsked.at 10 rfl) ?_
    exact sw_zret (dX9_isCellAsked.at 11 rfl) rfl (by decide) (Nat.le_refl _) (Nat.le_refl _) hv
  · replace hv := hv.2 (bz_n0 q)
    refine sw_iload_n (dX9_isCellAsked.at 4 rfl) rfl rfl ?_
    refine sw_i2l (dX9_isCellAsked.at 5 rfl) hv.1 ?_
    replace hv := hv.2
    refine sw_lconst (z := 0) (dX9_isCellAsked.at 6 rfl) (by decide) ?_
    refine sw_ldc2 (z := 2) (dX9_isCellAsked.at 7 rfl) kc_X9_342 (by decide) ?_
    refine sw_callS (post' := post) (B' := B0) (As := [vl (kd), vl (0), vl (2)]) (mc := 0) (ms := 0) (dX9_isCellAsked.at 8 rfl) lk_X9_104 rfl rfl (Nat.le_of_ble_eq_true rfl) rfl (Nat.le_refl _) (Nat.le_refl _) ?_
    refine c_X9_in (u := kd) (lo := 0) (hi := 2) (j := j + 4) hv.1 hv.2.1 hv.2.2.1 ?_
    replace hv := hv.2.2.2
    refine sw_if_ne (tgt := 22) (dX9_isCellAsked.at 9 rfl) (by decide) (bz_rng _) (fun q => ?_) (fun q => ?_)
    · replace hv := hv.1 (bz_1 q)
      refine sw_aload_n (dX9_isCellAsked.at 12 rfl) rfl rfl ?_
      refine sw_iload_n (dX9_isCellAsked.at 13 rfl) rfl rfl ?_
      exact hv
    · replace hv := hv.2 (bz_n1 q)
      refine sw_iconst (dX9_isCellAsked.at 10 rfl) ?_
      exact sw_zret (dX9_isCellAsked.at 11 rfl) rfl (by decide) (Nat.le_refl _) (Nat.le_refl _) hv

theorem c_X9_isCellAskedY {G : GG} {j nw nx gn : Nat} {g : Nat → Sh} {c : Nat → Nat → Int} {post : Option AV → AM → Prop} {P : GD} {T : PT} {x kd : Nat} (hM : ML c P) (hV : GV P) (hC : GC P) (hG : GP P T) (hR : RR P T c) (hT : HT P T) (p1 : x < gN P) (p2 : kd < 3) (K : ∀ c2 : Nat → Nat → Int, (SD c c2 ∧ RD P T c2 ∧ CE P T kd c2) → post (some (vi (bz true))) (S nw nx g, 78 + gn, c2)) : SM G (j + 6) mX9_isCellAsked [vr 49, vi ((x : Nat) : Int), vi ((kd : Nat) : Int)] (S nw nx g, 78 + gn, c) 0 0 post := by
  refine sm_of wX9_isCellAsked rfl (Nat.le_of_ble_eq_true rfl) ?_
  have h60 := GV_N hV
  refine g_X9_isCellAsked_n hM hV hC hG hR hT ?_
  refine ⟨?_, ⟨fun q => ?_, fun q => ⟨?_, ⟨?_, ?_, ?_, ⟨fun q => ⟨?_, fun c_1 h_1 => ?_⟩, fun q => ?_⟩⟩⟩⟩⟩
  all_goals (try simp only [decide_eq_true_eq, decide_eq_false_iff_not] at *)
  all_goals first | omega | (exfalso; omega) | exact K _ h_1
theorem c_X9_isCellAskedN {G : GG} {j nw nx gn : Nat} {g : Nat → Sh} {c : Nat → Nat → Int} {post : Option AV → AM → Prop} {P : GD} {T : PT} {x kd : Int} (hM : ML c P) (hV : GV P) (hC : GC P) (hG : GP P T) (hR : RR P T c) (hT : HT P T) (p1 : -2147483648 ≤ (x : Int) ∧ (x : Int) < 2147483648) (p2 : -2147483648 ≤ (kd : Int) ∧ (kd : Int) < 2147483648) (p3 : ¬ ((0 ≤ x ∧ x < (gN P : Int)) ∧ 0 ≤ kd ∧ kd < 3)) (K : post (some (vi (bz false))) (S nw nx g, 78 + gn, c)) : SM G (j + 6) mX9_isCellAsked [vr 49, vi x, vi kd] (S nw nx g, 78 + gn, c) 0 0 post := by
  refine sm_of wX9_isCellAsked rfl (Nat.le_of_ble_eq_true rfl) ?_
  have h60 := GV_N hV
  refine g_X9_isCellAsked_0 hM hV hC hG hR hT ?_
  refine ⟨?_, ⟨fun q => ?_, fun q => ⟨?_, ⟨?_, ?_, ?_, ⟨fun q => ?_, fun q => ?_⟩⟩⟩⟩⟩
  all_goals (try simp only [decide_eq_true_eq, decide_eq_false_iff_not] at *)
  all_goals first | omega | exact K | (exfalso; omega)

set_option maxHeartbeats 2000000 in
set_option maxRecDepth 20000 in
theorem g_X9_cellBits_5 {G : GG} {j nw nx gn : Nat} {g : Nat → Sh} {c : Nat → Nat → Int} {post : Option AV → AM → Prop} {x : Nat} {P : GD} {T : PT} {kd : Nat} {z : Nat} {a : Nat} (hM : ML c P) (hV : GV P) (hC : GC P) (hCE : CE P T kd c)  (hv : (z < 2147483648) ∧ (gN P < 2147483648) ∧ (((gN P ≤ z) → post (some (vl (((a : Nat) : Int)))) (S nw nx g, 78 + gn, c)) ∧ ((¬ (gN P ≤ z)) → (x < gN P) ∧ (((RC P T kd x) < 9223372036854775808) ∧ (z < 64) ∧ (((((RC P T kd x).testBit z) = false) → SW G (j + 1) mX9_cellBits 5 [some (vr (49)), some (vi (((x : Nat) : Int))), some (vl (((a ||| 0 : Nat) : Int))), none, some (vi (((z + 1 : Nat) : Int)))] [] (S nw nx g, 78 + gn, c) B0 post) ∧ ((((RC P T kd x).testBit z) = true) → (z < gN P) ∧ (((RC P T kd z) < 9223372036854775808) ∧ (x < 64) ∧ (((((RC P T kd z).testBit x) = false) → SW G (j + 1) mX9_cellBits 5 [some (vr (49)), some (vi (((x : Nat) : Int))), some (vl (((a ||| 0 : Nat) : Int))), none, some (vi (((z + 1 : Nat) : Int)))] [] (S nw nx g, 78 + gn, c) B0 post) ∧ ((((RC P T kd z).testBit x) = true) → (z < 64) ∧ (SW G (j + 1) mX9_cellBits 5 [some (vr (49)), some (vi (((x : Nat) : Int))), some (vl (((a ||| (1 * 2 ^ z) : Nat) : Int))), none, some (vi (((z + 1 : Nat) : Int)))] [] (S nw nx g, 78 + gn, c) B0 post)))))))))) :
    SW G (j + 1) mX9_cellBits 5 [some (vr (49)), some (vi (((x : Nat) : Int))), some (vl (((a : Nat) : Int))), none, some (vi (((z : Nat) : Int)))] [] (S nw nx g, 78 + gn, c) B0 post := by
  refine sw_iload (dX9_cellBits.at 4 rfl) rfl ?_
  refine sw_aload_n (dX9_cellBits.at 5 rfl) rfl rfl ?_
  refine sw_getIE (w := ((gN P : Nat) : Int)) (dX9_cellBits.at 6 rfl) fp_X9_196 (S_lt 49 (by decide)) (S_49 nw nx g) rfl hM.1.2.1 ?_
  refine sw_icmpN_ge z (gN P) (tgt := 59) (dX9_cellBits.at 7 rfl) (by decide) hv.1 hv.2.1 (fun q => ?_) (fun q => ?_)
  · replace hv := hv.2.2.1 q
    refine sw_lload_n (dX9_cellBits.at 32 rfl) rfl rfl ?_
    exact sw_lret (dX9_cellBits.at 33 rfl) rfl (Nat.le_refl _) (Nat.le_refl _) hv
  · replace hv := hv.2.2.2 q
    refine sw_lload_n (dX9_cellBits.at 8 rfl) rfl rfl ?_
    refine sw_aload_n (dX9_cellBits.at 9 rfl) rfl rfl ?_
    refine sw_getR (dX9_cellBits.at 10 rfl) fp_X9_71 (S_lt 49 (by decide)) (S_49 nw nx g) rfl rfl ?_
    refine sw_iload_n (dX9_cellBits.at 11 rfl) rfl rfl ?_
    refine sw_laldN x (w := ((RC P T kd x : Nat) : Int)) (dX9_cellBits.at 12 rfl) (S_lt 68 (by decide)) (S_68 nw nx g) (by decide) (GV_lt hV hv.1) (hCE _ hv.1) ?_
    replace hv := hv.2
    refine sw_iload (dX9_cellBits.at 13 rfl) rfl ?_
    refine sw_callS (post' := post) (B' := B0) (As := [vl (((RC P T kd x : Nat) : Int)), vi (((z : Nat) : Int))]) (mc := 0) (ms := 0) (dX9_cellBits.at 14 rfl) lk_X9_240 rfl rfl (Nat.le_of_ble_eq_true rfl) rfl (Nat.le_refl _) (Nat.le_refl _) ?_
    refine c_X9_has (s := (RC P T kd x)) (i := z) (j := j + 0) hv.1 hv.2.1 ?_
    replace hv := hv.2.2
    refine sw_if_eq (tgt := 50) (dX9_cellBits.at 15 rfl) (by decide) (bz_rng _) (fun q => ?_) (fun q => ?_)
    · replace hv := hv.1 (bz_0 q)
      refine sw_lconst (z := 0) (dX9_cellBits.at 27 rfl) (by decide) ?_
      refine sw_lorN a 0 (dX9_cellBits.at 28 rfl) ?_
      refine sw_lstore_n (lo' := [some (vr (49)), some (vi (((x : Nat) : Int))), some (vl (((a ||| 0 : Nat) : Int))), none, some (vi (((z : Nat) : Int)))]) (dX9_cellBits.at 29 rfl) rfl (by decide) rfl ?_
      refine sw_iinc (lo' := [some (vr (49)), some (vi (((x : Nat) : Int))), some (vl (((a ||| 0 : Nat) : Int))), none, some (vi (((z + 1 : Nat) : Int)))]) (dX9_cellBits.at 30 rfl) rfl (by decide) rfl ?_
      refine sw_goto (tgt := 5) (dX9_cellBits.at 31 rfl) (by decide) ?_
      exact hv
    · replace hv := hv.2 (bz_n0 q)
      refine sw_aload_n (dX9_cellBits.at 16 rfl) rfl rfl ?_
      refine sw_getR (dX9_cellBits.at 17 rfl) fp_X9_71 (S_lt 49 (by decide)) (S_49 nw nx g) rfl rfl ?_
      refine sw_iload (dX9_cellBits.at 18 rfl) rfl ?_
      refine sw_laldN z (w := ((RC P T kd z : Nat) : Int)) (dX9_cellBits.at 19 rfl) (S_lt 68 (by decide)) (S_68 nw nx g) (by decide) (GV_lt hV hv.1) (hCE _ hv.1) ?_
      replace hv := hv.2
      refine sw_iload_n (dX9_cellBits.at 20 rfl) rfl rfl ?_
      refine sw_callS (post' := post) (B' := B0) (As := [vl (((RC P T kd z : Nat) : Int)), vi (((x : Nat) : Int))]) (mc := 0) (ms := 0) (dX9_cellBits.at 21 rfl) lk_X9_240 rfl rfl (Nat.le_of_ble_eq_true rfl) rfl (Nat.le_refl _) (Nat.le_refl _) ?_
      refine c_X9_has (s := (RC P T kd z)) (i := x) (j := j + 0) hv.1 hv.2.1 ?_
      replace hv := hv.2.2
      refine sw_if_eq (tgt := 50) (dX9_cellBits.at 22 rfl) (by decide) (bz_rng _) (fun q => ?_) (fun q => ?_)
      · replace hv := hv.1 (bz_0 q)
        refine sw_lconst (z := 0) (dX9_cellBits.at 27 rfl) (by decide) ?_
        refine sw_lorN a 0 (dX9_cellBits.at 28 rfl) ?_
        refine sw_lstore_n (lo' := [some (vr (49)), some (vi (((x : Nat) : Int))), some (vl (((a ||| 0 : Nat) : Int))), none, some (vi (((z : Nat) : Int)))]) (dX9_cellBits.at 29 rfl) rfl (by decide) rfl ?_
        refine sw_iinc (lo' := [some (vr (49)), some (vi (((x : Nat) : Int))), some (vl (((a ||| 0 : Nat) : Int))), none, some (vi (((z + 1 : Nat) : Int)))]) (dX9_cellBits.at 30 rfl) rfl (by decide) rfl ?_
        refine sw_goto (tgt := 5) (dX9_cellBits.at 31 rfl) (by decide) ?_
        exact hv
      · replace hv := hv.2 (bz_n0 q)
        refine sw_lconst (z := 1) (dX9_cellBits.at 23 rfl) (by decide) ?_
        refine sw_iload (dX9_cellBits.at 24 rfl) rfl ?_
        refine sw_lshlN 1 z (dX9_cellBits.at 25 rfl) hv.1 ?_
        replace hv := hv.2
        refine sw_goto (tgt := 51) (dX9_cellBits.at 26 rfl) (by decide) ?_
        refine sw_lorN a (1 * 2 ^ z) (dX9_cellBits.at 28 rfl) ?_
        refine sw_lstore_n (lo' := [some (vr (49)), some (vi (((x : Nat) : Int))), some (vl (((a ||| (1 * 2 ^ z) : Nat) : Int))), none, some (vi (((z : Nat) : Int)))]) (dX9_cellBits.at 29 rfl) rfl (by decide) rfl ?_
        refine sw_iinc (lo' := [some (vr (49)), some (vi (((x : Nat) : Int))), some (vl (((a ||| (1 * 2 ^ z) : Nat) : Int))), none, some (vi (((z + 1 : Nat) : Int)))]) (dX9_cellBits.at 30 rfl) rfl (by decide) rfl ?_
        refine sw_goto (tgt := 5) (dX9_cellBits.at 31 rfl) (by decide) ?_
        exact hv

set_option maxHeartbeats 4000000 in
theorem lp_X9_cellBits_5 {G : GG} {j nw nx gn : Nat} {g : Nat → Sh} {c : Nat → Nat → Int} {post : Option AV → AM → Prop} {P : GD} {T : PT} {kd : Nat} {x : Nat} (hM : ML c P) (hV : GV P) (hC : GC P) (hCE : CE P T kd c) (hx : x < gN P) (hk : kd < 3) : ∀ (k : Nat) (z : Nat) (a : Nat), z + k = gN P → (post (some (vl (((bitD (pMem P T kd x) k z a : Nat) : Int)))) (S nw nx g, 78 + gn, c)) → SW G (j + 1) mX9_cellBits 5 [some (vr (49)), some (vi (((x : Nat) : Int))), some (vl (((a : Nat) : Int))), none, some (vi (((z : Nat) : Int)))] [] (S nw nx g, 78 + gn, c) B0 post := by
  intro k
  induction k with
  | zero =>
    intro z a hrel  K
    have h60 := GV_N hV
    have r9 := fun {q} (h : q < gN P) => lt63 (RCs_lt (P := P) (mu := muT P T) h60 hk h)
    simp only [bitD, pMem] at K
    refine g_X9_cellBits_5 hM hV hC hCE  ?_
    refine ⟨?_, ?_, ⟨fun q => ?_, fun q => ⟨?_, ⟨?_, ?_, ⟨fun q => ?_, fun q => ⟨?_, ⟨?_, ?_, ⟨fun q => ?_, fun q => ⟨?_, ?_⟩⟩⟩⟩⟩⟩⟩⟩⟩
    all_goals first | omega | exact K | (exfalso; omega) | exact r9 (by omega) | (simp only [*, if_true, if_false, ite_true, ite_false, Bool.false_eq_true, and_true, true_and, and_false, false_and, and_self, or_true, true_or, or_false, false_or, Bool.and_true, Bool.and_false, Bool.true_and, Bool.false_and, decide_true, decide_false, eq_self, not_true_eq_false, not_false_eq_true, ne_eq, reduceCtorEq] at K; exact K)
  | succ k ih =>
    intro z a hrel  K
    have h60 := GV_N hV
    have r9 := fun {q} (h : q < gN P) => lt63 (RCs_lt (P := P) (mu := muT P T) h60 hk h)
    simp only [bitD, pMem] at K
    refine g_X9_cellBits_5 hM hV hC hCE  ?_
    refine ⟨?_, ?_, ⟨fun q => ?_, fun q => ⟨?_, ⟨?_, ?_, ⟨fun q => ?_, fun q => ⟨?_, ⟨?_, ?_, ⟨fun q => ?_, fun q => ⟨?_, ?_⟩⟩⟩⟩⟩⟩⟩⟩⟩
    all_goals first | omega | assumption | (exfalso; omega) | exact r9 (by omega) | (simp only [*, if_true, if_false, ite_true, ite_false, Bool.false_eq_true, and_true, true_and, and_false, false_and, and_self, or_true, true_or, or_false, false_or, Bool.and_true, Bool.and_false, Bool.true_and, Bool.false_and, decide_true, decide_false, eq_self, not_true_eq_false, not_false_eq_true, ne_eq, reduceCtorEq] at K; first | exact K | exact ih _ _ (by omega)  K) | exact ih _ _ (by omega)  K

set_option maxHeartbeats 2000000 in
set_option maxRecDepth 20000 in
theorem g_X9_cellBits_0 {G : GG} {j nw nx gn : Nat} {g : Nat → Sh} {c : Nat → Nat → Int} {post : Option AV → AM → Prop} {x : Nat}  (hv : SW G (j + 1) mX9_cellBits 5 [some (vr (49)), some (vi (((x : Nat) : Int))), some (vl (0)), none, some (vi (0))] [] (S nw nx g, 78 + gn, c) B0 post) :
    SW G (j + 1) mX9_cellBits 0 [some (vr (49)), some (vi (((x : Nat) : Int))), none, none, none] [] (S nw nx g, 78 + gn, c) B0 post := by
  refine sw_lconst (z := 0) (dX9_cellBits.at 0 rfl) (by decide) ?_
  refine sw_lstore_n (lo' := [some (vr (49)), some (vi (((x : Nat) : Int))), some (vl (0)), none, none]) (dX9_cellBits.at 1 rfl) rfl (by decide) rfl ?_
  refine sw_iconst (dX9_cellBits.at 2 rfl) ?_
  refine sw_istore (lo' := [some (vr (49)), some (vi (((x : Nat) : Int))), some (vl (0)), none, some (vi (0))]) (dX9_cellBits.at 3 rfl) (by decide) rfl ?_
  exact hv

set_option maxHeartbeats 2000000 in
theorem c_X9_cellBits {G : GG} {j nw nx gn : Nat} {g : Nat → Sh} {c : Nat → Nat → Int} {post : Option AV → AM → Prop} {P : GD} {T : PT} {kd : Nat} {x : Nat} (hM : ML c P) (hV : GV P) (hC : GC P) (hCE : CE P T kd c) (p1 : x < gN P) (p2 : kd < 3) (K : post (some (vl (((gMem P T kd x : Nat) : Int)))) (S nw nx g, 78 + gn, c)) : SM G (j + 2) mX9_cellBits [vr (49), vi (((x : Nat) : Int))] (S nw nx g, 78 + gn, c) 0 0 post := by
  refine sm_of wX9_cellBits rfl (Nat.le_of_ble_eq_true rfl) ?_
  refine g_X9_cellBits_0  ?_
  exact lp_X9_cellBits_5 hM hV hC hCE p1 p2 (gN P) 0 0 (by omega) (by rw [bitD_U]; exact K)

set_option maxHeartbeats 2000000 in
set_option maxRecDepth 20000 in
theorem g_X9_cellOf_0n {G : GG} {j nw nx gn : Nat} {g : Nat → Sh} {c : Nat → Nat → Int} {post : Option AV → AM → Prop} {x : Nat} {kd : Nat} {P : GD} {T : PT} (hM : ML c P) (hV : GV P) (hC : GC P) (hG : GP P T) (hR : RR P T c) (hT : HT P T)  (hv : (x < gN P) ∧ (kd < 3) ∧ (∀ c_1 : Nat → Nat → Int, (SD c c_1 ∧ RD P T c_1 ∧ CE P T kd c_1) → (x < gN P) ∧ (kd < 3) ∧ (post (some (vl (((gMem P T kd x : Nat) : Int)))) (S nw nx g, 78 + gn, c_1)))) :
    SW G (j + 6) mX9_cellOf 0 [some (vr (49)), some (vi (((x : Nat) : Int))), some (vi (((kd : Nat) : Int)))] [] (S nw nx g, 78 + gn, c) B0 post := by
  refine sw_aload_n (dX9_cellOf.at 0 rfl) rfl rfl ?_
  refine sw_iload_n (dX9_cellOf.at 1 rfl) rfl rfl ?_
  refine sw_iload_n (dX9_cellOf.at 2 rfl) rfl rfl ?_
  refine sw_callV (B' := B0) (As := [vi (((x : Nat) : Int)), vi (((kd : Nat) : Int))]) (mc := 0) (ms := 0) (dX9_cellOf.at 3 rfl) lk_X9_347 (S_lt 49 (by decide)) (S_49 nw nx g) rfl rfl (Nat.le_of_ble_eq_true rfl) rfl (Nat.le_refl _) (Nat.le_refl _) ?_
  refine c_X9_isCellAskedY (T := T) (x := x) (kd := kd) (j := j + 0) hM hV hC hG hR hT hv.1 hv.2.1 (fun c_1 h_1 => ?_)
  replace hv := hv.2.2 c_1 h_1
  refine sw_if_eq (tgt := 17) (dX9_cellOf.at 4 rfl) (by decide) (by decide) (fun q => ?_) (fun q => ?_)
  · exact absurd q (by decide)
  · clear q
    refine sw_aload_n (dX9_cellOf.at 5 rfl) rfl rfl ?_
    refine sw_iload_n (dX9_cellOf.at 6 rfl) rfl rfl ?_
    refine sw_callV (B' := B0) (As := [vi (((x : Nat) : Int))]) (mc := 0) (ms := 0) (dX9_cellOf.at 7 rfl) lk_X9_350 (S_lt 49 (by decide)) (S_49 nw nx g) rfl rfl (Nat.le_of_ble_eq_true rfl) rfl (Nat.le_refl _) (Nat.le_refl _) ?_
    refine c_X9_cellBits (T := T) (kd := kd) (x := x) (j := j + 4) (ML_SD hM (SD_tr SD_rf h_1.1)) hV hC h_1.2.2 hv.1 hv.2.1 ?_
    replace hv := hv.2.2
    refine sw_goto (tgt := 20) (dX9_cellOf.at 8 rfl) (by decide) ?_
    exact sw_lret (dX9_cellOf.at 10 rfl) rfl (Nat.le_refl _) (Nat.le_refl _) hv

set_option maxHeartbeats 2000000 in
set_option maxRecDepth 20000 in
theorem g_X9_cellOf_0 {G : GG} {j nw nx gn : Nat} {g : Nat → Sh} {c : Nat → Nat → Int} {post : Option AV → AM → Prop} {x : Int} {kd : Int} {P : GD} {T : PT} (hM : ML c P) (hV : GV P) (hC : GC P) (hG : GP P T) (hR : RR P T c) (hT : HT P T)  (hv : (-2147483648 ≤ (x : Int) ∧ (x : Int) < 2147483648) ∧ (-2147483648 ≤ (kd : Int) ∧ (kd : Int) < 2147483648) ∧ (¬ ((0 ≤ (x : Int) ∧ (x : Int) < (gN P : Int)) ∧ 0 ≤ kd ∧ kd < 3)) ∧ (post (some (vl ((-2)))) (S nw nx g, 78 + gn, c))) :
    SW G (j + 6) mX9_cellOf 0 [some (vr (49)), some (vi (x)), some (vi (kd))] [] (S nw nx g, 78 + gn, c) B0 post := by
  refine sw_aload_n (dX9_cellOf.at 0 rfl) rfl rfl ?_
  refine sw_iload_n (dX9_cellOf.at 1 rfl) rfl rfl ?_
  refine sw_iload_n (dX9_cellOf.at 2 rfl) rfl rfl ?_
  refine sw_callV (B' := B0) (As := [vi (x), vi (kd)]) (mc := 0) (ms := 0) (dX9_cellOf.at 3 rfl) lk_X9_347 (S_lt 49 (by decide)) (S_49 nw nx g) rfl rfl (Nat.le_of_ble_eq_true rfl) rfl (Nat.le_refl _) (Nat.le_refl _) ?_
  refine c_X9_isCellAskedN (T := T) (x := x) (kd := kd) (j := j + 0) hM hV hC hG hR hT hv.1 hv.2.1 hv.2.2.1 ?_
  replace hv := hv.2.2.2
  refine sw_if_eq (tgt := 17) (dX9_cellOf.at 4 rfl) (by decide) (by decide) (fun q => ?_) (fun q => ?_)
  · clear q
    refine sw_ldc2 (z := (-2)) (dX9_cellOf.at 9 rfl) kc_X9_259 (by decide) ?_
    exact sw_lret (dX9_cellOf.at 10 rfl) rfl (Nat.le_refl _) (Nat.le_refl _) hv
  · exact absurd q (by decide)

set_option maxHeartbeats 4000000 in
theorem c_X9_cellOf {G : GG} {j nw nx gn : Nat} {g : Nat → Sh} {c : Nat → Nat → Int} {post : Option AV → AM → Prop} {P : GD} {T : PT} {x kd : Int} (hM : ML c P) (hV : GV P) (hC : GC P) (hG : GP P T) (hR : RR P T c) (hT : HT P T) (p1 : -2147483648 ≤ x ∧ x < 2147483648) (p2 : -2147483648 ≤ kd ∧ kd < 2147483648) (K : ∀ c2 : Nat → Nat → Int, (SD c c2 ∧ RR P T c2) → post (some (vl (q_cellOf P T x kd))) (S nw nx g, 78 + gn, c2)) : SM G (j + 7) mX9_cellOf [vr (49), vi (x), vi (kd)] (S nw nx g, 78 + gn, c) 0 0 post := by
  refine sm_of wX9_cellOf rfl (Nat.le_of_ble_eq_true rfl) ?_
  have hN60 := GV_N hV
  have hR5 := GV_R hV
  by_cases hv : (0 ≤ x ∧ x < (gN P : Int)) ∧ 0 ≤ kd ∧ kd < 3
  · obtain ⟨x, rfl⟩ : ∃ n : Nat, x = (n : Int) := ⟨x.toNat, by omega⟩
    obtain ⟨kd, rfl⟩ : ∃ n : Nat, kd = (n : Int) := ⟨kd.toNat, by omega⟩
    have e : q_cellOf P T ((x : Nat) : Int) ((kd : Nat) : Int) = ((gMem P T kd x : Nat) : Int) := by
      rw [q_cellOf, if_pos hv]
      simp only [Int.toNat_natCast]
    rw [e] at K
    have K1 : ∀ (z : Int) (c2 : Nat → Nat → Int), ((SD c c2 ∧ RR P T c2)) → z = (((gMem P T kd x : Nat) : Int)) → post (some (vl z)) (S nw nx g, 78 + gn, c2) := fun z c2 h e9 => e9 ▸ K c2 h
    have hx : x < gN P := by omega
    have g9 := gMem_ok (T := T) hV (kd := kd) hx
    have g8 : gMem P T kd x < 9223372036854775808 := Nat.lt_of_lt_of_le g9.2 (by decide)
    refine g_X9_cellOf_0n hM hV hC hG hR hT ?_
    refine ⟨?_, ?_, fun c_1 h_1 => ⟨?_, ?_, ?_⟩⟩
    all_goals first | omega | assumption | (exfalso; simp only [decide_eq_true_eq, decide_eq_false_iff_not] at *; omega) | exact K _ (by first | exact ⟨SD_rf, hR⟩ | exact ⟨h_1.1, Or.inr h_1.2.1⟩ | assumption) | (refine K1 _ _ (by first | exact ⟨SD_rf, hR⟩ | exact ⟨h_1.1, Or.inr h_1.2.1⟩ | assumption) ?_; first | rfl | (simp [bz, *]; done) | (split <;> first | rfl | omega))
  · have e : q_cellOf P T x kd = (-2) := by rw [q_cellOf, if_neg hv]
    rw [e] at K
    have K1 : ∀ (z : Int) (c2 : Nat → Nat → Int), ((SD c c2 ∧ RR P T c2)) → z = ((-2)) → post (some (vl z)) (S nw nx g, 78 + gn, c2) := fun z c2 h e9 => e9 ▸ K c2 h
    refine g_X9_cellOf_0 hM hV hC hG hR hT ?_
    refine ⟨?_, ?_, ?_, ?_⟩
    all_goals first | omega | assumption | (exfalso; simp only [decide_eq_true_eq, decide_eq_false_iff_not] at *; omega) | exact K _ (by first | exact ⟨SD_rf, hR⟩ | exact ⟨h_1.1, Or.inr h_1.2.1⟩ | assumption) | (refine K1 _ _ (by first | exact ⟨SD_rf, hR⟩ | exact ⟨h_1.1, Or.inr h_1.2.1⟩ | assumption) ?_; first | rfl | (simp [bz, *]; done) | (split <;> first | rfl | omega))

set_option maxHeartbeats 2000000 in
set_option maxRecDepth 20000 in
theorem g_X9_cell_0n {G : GG} {j nw nx gn : Nat} {g : Nat → Sh} {c : Nat → Nat → Int} {post : Option AV → AM → Prop} {x : Nat} {kd : Nat} {P : GD} {T : PT} (hM : ML c P) (hV : GV P) (hC : GC P) (hG : GP P T) (hR : RR P T c) (hT : HT P T)  (hv : (x < gN P) ∧ (kd < 3) ∧ (∀ c_1 : Nat → Nat → Int, (SD c c_1 ∧ RD P T c_1 ∧ CE P T kd c_1) → (x < gN P) ∧ (kd < 3) ∧ ((0 < (gMem P T kd x)) ∧ ((gMem P T kd x) < 9223372036854775808) ∧ (post (some (vi (((lsb (gMem P T kd x) : Nat) : Int)))) (S nw nx g, 78 + gn, c_1))))) :
    SW G (j + 6) mX9_cell 0 [some (vr (49)), some (vi (((x : Nat) : Int))), some (vi (((kd : Nat) : Int)))] [] (S nw nx g, 78 + gn, c) B0 post := by
  refine sw_aload_n (dX9_cell.at 0 rfl) rfl rfl ?_
  refine sw_iload_n (dX9_cell.at 1 rfl) rfl rfl ?_
  refine sw_iload_n (dX9_cell.at 2 rfl) rfl rfl ?_
  refine sw_callV (B' := B0) (As := [vi (((x : Nat) : Int)), vi (((kd : Nat) : Int))]) (mc := 0) (ms := 0) (dX9_cell.at 3 rfl) lk_X9_347 (S_lt 49 (by decide)) (S_49 nw nx g) rfl rfl (Nat.le_of_ble_eq_true rfl) rfl (Nat.le_refl _) (Nat.le_refl _) ?_
  refine c_X9_isCellAskedY (T := T) (x := x) (kd := kd) (j := j + 0) hM hV hC hG hR hT hv.1 hv.2.1 (fun c_1 h_1 => ?_)
  replace hv := hv.2.2 c_1 h_1
  refine sw_if_eq (tgt := 20) (dX9_cell.at 4 rfl) (by decide) (by decide) (fun q => ?_) (fun q => ?_)
  · exact absurd q (by decide)
  · clear q
    refine sw_aload_n (dX9_cell.at 5 rfl) rfl rfl ?_
    refine sw_iload_n (dX9_cell.at 6 rfl) rfl rfl ?_
    refine sw_callV (B' := B0) (As := [vi (((x : Nat) : Int))]) (mc := 0) (ms := 0) (dX9_cell.at 7 rfl) lk_X9_350 (S_lt 49 (by decide)) (S_49 nw nx g) rfl rfl (Nat.le_of_ble_eq_true rfl) rfl (Nat.le_refl _) (Nat.le_refl _) ?_
    refine c_X9_cellBits (T := T) (kd := kd) (x := x) (j := j + 4) (ML_SD hM (SD_tr SD_rf h_1.1)) hV hC h_1.2.2 hv.1 hv.2.1 ?_
    replace hv := hv.2.2
    refine sw_callS (post' := post) (B' := B0) (As := [vl (((gMem P T kd x : Nat) : Int))]) (mc := 0) (ms := 0) (dX9_cell.at 8 rfl) lk_X9_353 rfl rfl (Nat.le_of_ble_eq_true rfl) rfl (Nat.le_refl _) (Nat.le_refl _) ?_
    refine c_X9_leastOf (s := (gMem P T kd x)) (j := j + 4) hv.1 hv.2.1 ?_
    replace hv := hv.2.2
    refine sw_goto (tgt := 22) (dX9_cell.at 9 rfl) (by decide) ?_
    exact sw_iret (dX9_cell.at 11 rfl) rfl (Nat.le_refl _) (Nat.le_refl _) hv

set_option maxHeartbeats 2000000 in
set_option maxRecDepth 20000 in
theorem g_X9_cell_0 {G : GG} {j nw nx gn : Nat} {g : Nat → Sh} {c : Nat → Nat → Int} {post : Option AV → AM → Prop} {x : Int} {kd : Int} {P : GD} {T : PT} (hM : ML c P) (hV : GV P) (hC : GC P) (hG : GP P T) (hR : RR P T c) (hT : HT P T)  (hv : (-2147483648 ≤ (x : Int) ∧ (x : Int) < 2147483648) ∧ (-2147483648 ≤ (kd : Int) ∧ (kd : Int) < 2147483648) ∧ (¬ ((0 ≤ (x : Int) ∧ (x : Int) < (gN P : Int)) ∧ 0 ≤ kd ∧ kd < 3)) ∧ (post (some (vi ((-2)))) (S nw nx g, 78 + gn, c))) :
    SW G (j + 6) mX9_cell 0 [some (vr (49)), some (vi (x)), some (vi (kd))] [] (S nw nx g, 78 + gn, c) B0 post := by
  refine sw_aload_n (dX9_cell.at 0 rfl) rfl rfl ?_
  refine sw_iload_n (dX9_cell.at 1 rfl) rfl rfl ?_
  refine sw_iload_n (dX9_cell.at 2 rfl) rfl rfl ?_
  refine sw_callV (B' := B0) (As := [vi (x), vi (kd)]) (mc := 0) (ms := 0) (dX9_cell.at 3 rfl) lk_X9_347 (S_lt 49 (by decide)) (S_49 nw nx g) rfl rfl (Nat.le_of_ble_eq_true rfl) rfl (Nat.le_refl _) (Nat.le_refl _) ?_
  refine c_X9_isCellAskedN (T := T) (x := x) (kd := kd) (j := j + 0) hM hV hC hG hR hT hv.1 hv.2.1 hv.2.2.1 ?_
  replace hv := hv.2.2.2
  refine sw_if_eq (tgt := 20) (dX9_cell.at 4 rfl) (by decide) (by decide) (fun q => ?_) (fun q => ?_)
  · clear q
    refine sw_bipush (dX9_cell.at 10 rfl) (by decide) ?_
    exact sw_iret (dX9_cell.at 11 rfl) rfl (Nat.le_refl _) (Nat.le_refl _) hv
  · exact absurd q (by decide)

set_option maxHeartbeats 4000000 in
theorem c_X9_cell {G : GG} {j nw nx gn : Nat} {g : Nat → Sh} {c : Nat → Nat → Int} {post : Option AV → AM → Prop} {P : GD} {T : PT} {x kd : Int} (hM : ML c P) (hV : GV P) (hC : GC P) (hG : GP P T) (hR : RR P T c) (hT : HT P T) (p1 : -2147483648 ≤ x ∧ x < 2147483648) (p2 : -2147483648 ≤ kd ∧ kd < 2147483648) (K : ∀ c2 : Nat → Nat → Int, (SD c c2 ∧ RR P T c2) → post (some (vi (q_cell P T x kd))) (S nw nx g, 78 + gn, c2)) : SM G (j + 7) mX9_cell [vr (49), vi (x), vi (kd)] (S nw nx g, 78 + gn, c) 0 0 post := by
  refine sm_of wX9_cell rfl (Nat.le_of_ble_eq_true rfl) ?_
  have hN60 := GV_N hV
  have hR5 := GV_R hV
  by_cases hv : (0 ≤ x ∧ x < (gN P : Int)) ∧ 0 ≤ kd ∧ kd < 3
  · obtain ⟨x, rfl⟩ : ∃ n : Nat, x = (n : Int) := ⟨x.toNat, by omega⟩
    obtain ⟨kd, rfl⟩ : ∃ n : Nat, kd = (n : Int) := ⟨kd.toNat, by omega⟩
    have e : q_cell P T ((x : Nat) : Int) ((kd : Nat) : Int) = ((lsb (gMem P T kd x) : Nat) : Int) := by
      rw [q_cell, if_pos hv]
      simp only [Int.toNat_natCast]
    rw [e] at K
    have K1 : ∀ (z : Int) (c2 : Nat → Nat → Int), ((SD c c2 ∧ RR P T c2)) → z = (((lsb (gMem P T kd x) : Nat) : Int)) → post (some (vi z)) (S nw nx g, 78 + gn, c2) := fun z c2 h e9 => e9 ▸ K c2 h
    have hx : x < gN P := by omega
    have g9 := gMem_ok (T := T) hV (kd := kd) hx
    have g8 : gMem P T kd x < 9223372036854775808 := Nat.lt_of_lt_of_le g9.2 (by decide)
    refine g_X9_cell_0n hM hV hC hG hR hT ?_
    refine ⟨?_, ?_, fun c_1 h_1 => ⟨?_, ?_, ⟨?_, ?_, ?_⟩⟩⟩
    all_goals first | omega | assumption | (exfalso; simp only [decide_eq_true_eq, decide_eq_false_iff_not] at *; omega) | exact g9.1 | exact g8 | exact K _ (by first | exact ⟨SD_rf, hR⟩ | exact ⟨h_1.1, Or.inr h_1.2.1⟩ | assumption) | (refine K1 _ _ (by first | exact ⟨SD_rf, hR⟩ | exact ⟨h_1.1, Or.inr h_1.2.1⟩ | assumption) ?_; first | rfl | (simp [bz, *]; done) | (split <;> first | rfl | omega))
  · have e : q_cell P T x kd = (-2) := by rw [q_cell, if_neg hv]
    rw [e] at K
    have K1 : ∀ (z : Int) (c2 : Nat → Nat → Int), ((SD c c2 ∧ RR P T c2)) → z = ((-2)) → post (some (vi z)) (S nw nx g, 78 + gn, c2) := fun z c2 h e9 => e9 ▸ K c2 h
    refine g_X9_cell_0 hM hV hC hG hR hT ?_
    refine ⟨?_, ?_, ?_, ?_⟩
    all_goals first | omega | assumption | (exfalso; simp only [decide_eq_true_eq, decide_eq_false_iff_not] at *; omega) | exact K _ (by first | exact ⟨SD_rf, hR⟩ | exact ⟨h_1.1, Or.inr h_1.2.1⟩ | assumption) | (refine K1 _ _ (by first | exact ⟨SD_rf, hR⟩ | exact ⟨h_1.1, Or.inr h_1.2.1⟩ | assumption) ?_; first | rfl | (simp [bz, *]; done) | (split <;> first | rfl | omega))

set_option maxHeartbeats 2000000 in
set_option maxRecDepth 20000 in
theorem g_X9_under_0n {G : GG} {j nw nx gn : Nat} {g : Nat → Sh} {c : Nat → Nat → Int} {post : Option AV → AM → Prop} {x : Nat} {y : Nat} {kd : Nat} {P : GD} {T : PT} (hM : ML c P) (hV : GV P) (hC : GC P) (hG : GP P T) (hR : RR P T c) (hT : HT P T)  (hv : (-2147483648 ≤ ((y : Nat) : Int) ∧ ((y : Nat) : Int) < 2147483648) ∧ ((((decide (0 ≤ ((y : Nat) : Int) ∧ ((y : Nat) : Int) < (gN P : Int))) = false) → post (some (vi ((-2)))) (S nw nx g, 78 + gn, c)) ∧ (((decide (0 ≤ ((y : Nat) : Int) ∧ ((y : Nat) : Int) < (gN P : Int))) = true) → (x < gN P) ∧ (kd < 3) ∧ (∀ c_1 : Nat → Nat → Int, (SD c c_1 ∧ RD P T c_1 ∧ CE P T kd c_1) → (y < gN P) ∧ (((RC P T kd y) < 9223372036854775808) ∧ (x < 64) ∧ (((((RC P T kd y).testBit x) = false) → post (some (vi (0))) (S nw nx g, 78 + gn, c_1)) ∧ ((((RC P T kd y).testBit x) = true) → post (some (vi (1))) (S nw nx g, 78 + gn, c_1)))))))) :
    SW G (j + 6) mX9_under 0 [some (vr (49)), some (vi (((x : Nat) : Int))), some (vi (((y : Nat) : Int))), some (vi (((kd : Nat) : Int)))] [] (S nw nx g, 78 + gn, c) B0 post := by
  refine sw_aload_n (dX9_under.at 0 rfl) rfl rfl ?_
  refine sw_iload_n (dX9_under.at 1 rfl) rfl rfl ?_
  refine sw_callV (B' := B0) (As := [vi (((y : Nat) : Int))]) (mc := 0) (ms := 0) (dX9_under.at 2 rfl) lk_X9_251 (S_lt 49 (by decide)) (S_49 nw nx g) rfl rfl (Nat.le_of_ble_eq_true rfl) rfl (Nat.le_refl _) (Nat.le_refl _) ?_
  refine c_X9_isElement (x := ((y : Nat) : Int)) (j := j + 4) hM hV hv.1 ?_
  replace hv := hv.2
  refine sw_if_eq (tgt := 17) (dX9_under.at 3 rfl) (by decide) (bz_rng _) (fun q => ?_) (fun q => ?_)
  · replace hv := hv.1 (bz_0 q)
    refine sw_bipush (dX9_under.at 9 rfl) (by decide) ?_
    exact sw_iret (dX9_under.at 10 rfl) rfl (Nat.le_refl _) (Nat.le_refl _) hv
  · replace hv := hv.2 (bz_n0 q)
    refine sw_aload_n (dX9_under.at 4 rfl) rfl rfl ?_
    refine sw_iload_n (dX9_under.at 5 rfl) rfl rfl ?_
    refine sw_iload_n (dX9_under.at 6 rfl) rfl rfl ?_
    refine sw_callV (B' := B0) (As := [vi (((x : Nat) : Int)), vi (((kd : Nat) : Int))]) (mc := 0) (ms := 0) (dX9_under.at 7 rfl) lk_X9_347 (S_lt 49 (by decide)) (S_49 nw nx g) rfl rfl (Nat.le_of_ble_eq_true rfl) rfl (Nat.le_refl _) (Nat.le_refl _) ?_
    refine c_X9_isCellAskedY (T := T) (x := x) (kd := kd) (j := j + 0) hM hV hC hG hR hT hv.1 hv.2.1 (fun c_1 h_1 => ?_)
    replace hv := hv.2.2 c_1 h_1
    refine sw_if_ne (tgt := 20) (dX9_under.at 8 rfl) (by decide) (by decide) (fun q => ?_) (fun q => ?_)
    · clear q
      refine sw_aload_n (dX9_under.at 11 rfl) rfl rfl ?_
      refine sw_getR (dX9_under.at 12 rfl) fp_X9_71 (S_lt 49 (by decide)) (S_49 nw nx g) rfl rfl ?_
      refine sw_iload_n (dX9_under.at 13 rfl) rfl rfl ?_
      refine sw_laldN y (w := ((RC P T kd y : Nat) : Int)) (dX9_under.at 14 rfl) (S_lt 68 (by decide)) (S_68 nw nx g) (by decide) (GV_lt hV hv.1) (h_1.2.2 _ hv.1) ?_
      replace hv := hv.2
      refine sw_iload_n (dX9_under.at 15 rfl) rfl rfl ?_
      refine sw_callS (post' := post) (B' := B0) (As := [vl (((RC P T kd y : Nat) : Int)), vi (((x : Nat) : Int))]) (mc := 0) (ms := 0) (dX9_under.at 16 rfl) lk_X9_240 rfl rfl (Nat.le_of_ble_eq_true rfl) rfl (Nat.le_refl _) (Nat.le_refl _) ?_
      refine c_X9_has (s := (RC P T kd y)) (i := x) (j := j + 5) hv.1 hv.2.1 ?_
      replace hv := hv.2.2
      refine sw_if_eq (tgt := 37) (dX9_under.at 17 rfl) (by decide) (bz_rng _) (fun q => ?_) (fun q => ?_)
      · replace hv := hv.1 (bz_0 q)
        refine sw_iconst (dX9_under.at 20 rfl) ?_
        exact sw_iret (dX9_under.at 21 rfl) rfl (Nat.le_refl _) (Nat.le_refl _) hv
      · replace hv := hv.2 (bz_n0 q)
        refine sw_iconst (dX9_under.at 18 rfl) ?_
        refine sw_goto (tgt := 38) (dX9_under.at 19 rfl) (by decide) ?_
        exact sw_iret (dX9_under.at 21 rfl) rfl (Nat.le_refl _) (Nat.le_refl _) hv
    · exact absurd q (by decide)

set_option maxHeartbeats 2000000 in
set_option maxRecDepth 20000 in
theorem g_X9_under_0 {G : GG} {j nw nx gn : Nat} {g : Nat → Sh} {c : Nat → Nat → Int} {post : Option AV → AM → Prop} {x : Int} {y : Int} {kd : Int} {P : GD} {T : PT} (hM : ML c P) (hV : GV P) (hC : GC P) (hG : GP P T) (hR : RR P T c) (hT : HT P T)  (hv : (-2147483648 ≤ y ∧ y < 2147483648) ∧ ((((decide (0 ≤ y ∧ y < (gN P : Int))) = false) → post (some (vi ((-2)))) (S nw nx g, 78 + gn, c)) ∧ (((decide (0 ≤ y ∧ y < (gN P : Int))) = true) → (-2147483648 ≤ (x : Int) ∧ (x : Int) < 2147483648) ∧ (-2147483648 ≤ (kd : Int) ∧ (kd : Int) < 2147483648) ∧ (¬ ((0 ≤ (x : Int) ∧ (x : Int) < (gN P : Int)) ∧ 0 ≤ kd ∧ kd < 3)) ∧ (post (some (vi ((-2)))) (S nw nx g, 78 + gn, c))))) :
    SW G (j + 6) mX9_under 0 [some (vr (49)), some (vi (x)), some (vi (y)), some (vi (kd))] [] (S nw nx g, 78 + gn, c) B0 post := by
  refine sw_aload_n (dX9_under.at 0 rfl) rfl rfl ?_
  refine sw_iload_n (dX9_under.at 1 rfl) rfl rfl ?_
  refine sw_callV (B' := B0) (As := [vi (y)]) (mc := 0) (ms := 0) (dX9_under.at 2 rfl) lk_X9_251 (S_lt 49 (by decide)) (S_49 nw nx g) rfl rfl (Nat.le_of_ble_eq_true rfl) rfl (Nat.le_refl _) (Nat.le_refl _) ?_
  refine c_X9_isElement (x := y) (j := j + 4) hM hV hv.1 ?_
  replace hv := hv.2
  refine sw_if_eq (tgt := 17) (dX9_under.at 3 rfl) (by decide) (bz_rng _) (fun q => ?_) (fun q => ?_)
  · replace hv := hv.1 (bz_0 q)
    refine sw_bipush (dX9_under.at 9 rfl) (by decide) ?_
    exact sw_iret (dX9_under.at 10 rfl) rfl (Nat.le_refl _) (Nat.le_refl _) hv
  · replace hv := hv.2 (bz_n0 q)
    refine sw_aload_n (dX9_under.at 4 rfl) rfl rfl ?_
    refine sw_iload_n (dX9_under.at 5 rfl) rfl rfl ?_
    refine sw_iload_n (dX9_under.at 6 rfl) rfl rfl ?_
    refine sw_callV (B' := B0) (As := [vi (x), vi (kd)]) (mc := 0) (ms := 0) (dX9_under.at 7 rfl) lk_X9_347 (S_lt 49 (by decide)) (S_49 nw nx g) rfl rfl (Nat.le_of_ble_eq_true rfl) rfl (Nat.le_refl _) (Nat.le_refl _) ?_
    refine c_X9_isCellAskedN (T := T) (x := x) (kd := kd) (j := j + 0) hM hV hC hG hR hT hv.1 hv.2.1 hv.2.2.1 ?_
    replace hv := hv.2.2.2
    refine sw_if_ne (tgt := 20) (dX9_under.at 8 rfl) (by decide) (by decide) (fun q => ?_) (fun q => ?_)
    · exact absurd q (by decide)
    · clear q
      refine sw_bipush (dX9_under.at 9 rfl) (by decide) ?_
      exact sw_iret (dX9_under.at 10 rfl) rfl (Nat.le_refl _) (Nat.le_refl _) hv

set_option maxHeartbeats 4000000 in
theorem c_X9_under {G : GG} {j nw nx gn : Nat} {g : Nat → Sh} {c : Nat → Nat → Int} {post : Option AV → AM → Prop} {P : GD} {T : PT} {x y kd : Int} (hM : ML c P) (hV : GV P) (hC : GC P) (hG : GP P T) (hR : RR P T c) (hT : HT P T) (p1 : -2147483648 ≤ x ∧ x < 2147483648) (p2 : -2147483648 ≤ y ∧ y < 2147483648) (p3 : -2147483648 ≤ kd ∧ kd < 2147483648) (K : ∀ c2 : Nat → Nat → Int, (SD c c2 ∧ RR P T c2) → post (some (vi (q_under P T x y kd))) (S nw nx g, 78 + gn, c2)) : SM G (j + 7) mX9_under [vr (49), vi (x), vi (y), vi (kd)] (S nw nx g, 78 + gn, c) 0 0 post := by
  refine sm_of wX9_under rfl (Nat.le_of_ble_eq_true rfl) ?_
  have hN60 := GV_N hV
  have hR5 := GV_R hV
  by_cases hv : ((0 ≤ x ∧ x < (gN P : Int)) ∧ 0 ≤ y ∧ y < (gN P : Int)) ∧ 0 ≤ kd ∧ kd < 3
  · obtain ⟨x, rfl⟩ : ∃ n : Nat, x = (n : Int) := ⟨x.toNat, by omega⟩
    obtain ⟨y, rfl⟩ : ∃ n : Nat, y = (n : Int) := ⟨y.toNat, by omega⟩
    obtain ⟨kd, rfl⟩ : ∃ n : Nat, kd = (n : Int) := ⟨kd.toNat, by omega⟩
    have e : q_under P T ((x : Nat) : Int) ((y : Nat) : Int) ((kd : Nat) : Int) = bz ((RC P T kd y).testBit x) := by
      rw [q_under, if_pos hv]
      simp only [Int.toNat_natCast]
    rw [e] at K
    have K1 : ∀ (z : Int) (c2 : Nat → Nat → Int), ((SD c c2 ∧ RR P T c2)) → z = (bz ((RC P T kd y).testBit x)) → post (some (vi z)) (S nw nx g, 78 + gn, c2) := fun z c2 h e9 => e9 ▸ K c2 h
    have r9 := lt63 (RCs_lt (P := P) (mu := muT P T) (kd := kd) (x := y) hN60 (by omega) (by omega))
    refine g_X9_under_0n hM hV hC hG hR hT ?_
    refine ⟨?_, ⟨fun q => ?_, fun q => ⟨?_, ?_, fun c_1 h_1 => ⟨?_, ⟨?_, ?_, ⟨fun q => ?_, fun q => ?_⟩⟩⟩⟩⟩⟩
    all_goals first | omega | assumption | (exfalso; simp only [decide_eq_true_eq, decide_eq_false_iff_not] at *; omega) | exact r9 | exact K _ (by first | exact ⟨SD_rf, hR⟩ | exact ⟨h_1.1, Or.inr h_1.2.1⟩ | assumption) | (refine K1 _ _ (by first | exact ⟨SD_rf, hR⟩ | exact ⟨h_1.1, Or.inr h_1.2.1⟩ | assumption) ?_; first | rfl | (simp [bz, *]; done) | (split <;> first | rfl | omega))
  · have e : q_under P T x y kd = (-2) := by rw [q_under, if_neg hv]
    rw [e] at K
    have K1 : ∀ (z : Int) (c2 : Nat → Nat → Int), ((SD c c2 ∧ RR P T c2)) → z = ((-2)) → post (some (vi z)) (S nw nx g, 78 + gn, c2) := fun z c2 h e9 => e9 ▸ K c2 h
    refine g_X9_under_0 hM hV hC hG hR hT ?_
    refine ⟨?_, ⟨fun q => ?_, fun q => ⟨?_, ?_, ?_, ?_⟩⟩⟩
    all_goals first | omega | assumption | (exfalso; simp only [decide_eq_true_eq, decide_eq_false_iff_not] at *; omega) | (simp only [decide_eq_true_eq, decide_eq_false_iff_not] at *; omega) | exact K _ (by first | exact ⟨SD_rf, hR⟩ | exact ⟨h_1.1, Or.inr h_1.2.1⟩ | assumption) | (refine K1 _ _ (by first | exact ⟨SD_rf, hR⟩ | exact ⟨h_1.1, Or.inr h_1.2.1⟩ | assumption) ?_; first | rfl | (simp [bz, *]; done) | (split <;> first | rfl | omega))

set_option maxHeartbeats 2000000 in
set_option maxRecDepth 20000 in
theorem g_X9_cellMany_16 {G : GG} {j nw nx gn : Nat} {g : Nat → Sh} {c : Nat → Nat → Int} {post : Option AV → AM → Prop} {kd : Nat} {P : GD} {T : PT} {z : Nat} {a : Nat} (hM : ML c P) (hV : GV P) (hC : GC P) (hCE : CE P T kd c)  (hv : (z < 2147483648) ∧ (gN P < 2147483648) ∧ (((gN P ≤ z) → post (some (vi (((a : Nat) : Int)))) (S nw nx g, 78 + gn, c)) ∧ ((¬ (gN P ≤ z)) → (z < gN P) ∧ (kd < 3) ∧ ((0 < (gMem P T kd z)) ∧ ((gMem P T kd z) < 9223372036854775808) ∧ ((lsb (gMem P T kd z) < 2147483648) ∧ (z < 2147483648) ∧ (((lsb (gMem P T kd z) ≠ z) → SW G (j + 6) mX9_cellMany 16 [some (vr (49)), some (vi (((kd : Nat) : Int))), some (vi (((a + 0 : Nat) : Int))), some (vi (((z + 1 : Nat) : Int)))] [] (S nw nx g, 78 + gn, c) B0 post) ∧ ((lsb (gMem P T kd z) = z) → SW G (j + 6) mX9_cellMany 16 [some (vr (49)), some (vi (((kd : Nat) : Int))), some (vi (((a + 1 : Nat) : Int))), some (vi (((z + 1 : Nat) : Int)))] [] (S nw nx g, 78 + gn, c) B0 post))))))) :
    SW G (j + 6) mX9_cellMany 16 [some (vr (49)), some (vi (((kd : Nat) : Int))), some (vi (((a : Nat) : Int))), some (vi (((z : Nat) : Int)))] [] (S nw nx g, 78 + gn, c) B0 post := by
  refine sw_iload_n (dX9_cellMany.at 11 rfl) rfl rfl ?_
  refine sw_aload_n (dX9_cellMany.at 12 rfl) rfl rfl ?_
  refine sw_getIE (w := ((gN P : Nat) : Int)) (dX9_cellMany.at 13 rfl) fp_X9_196 (S_lt 49 (by decide)) (S_49 nw nx g) rfl hM.1.2.1 ?_
  refine sw_icmpN_ge z (gN P) (tgt := 50) (dX9_cellMany.at 14 rfl) (by decide) hv.1 hv.2.1 (fun q => ?_) (fun q => ?_)
  · replace hv := hv.2.2.1 q
    refine sw_iload_n (dX9_cellMany.at 29 rfl) rfl rfl ?_
    exact sw_iret (dX9_cellMany.at 30 rfl) rfl (Nat.le_refl _) (Nat.le_refl _) hv
  · replace hv := hv.2.2.2 q
    refine sw_iload_n (dX9_cellMany.at 15 rfl) rfl rfl ?_
    refine sw_aload_n (dX9_cellMany.at 16 rfl) rfl rfl ?_
    refine sw_iload_n (dX9_cellMany.at 17 rfl) rfl rfl ?_
    refine sw_callV (B' := B0) (As := [vi (((z : Nat) : Int))]) (mc := 0) (ms := 0) (dX9_cellMany.at 18 rfl) lk_X9_350 (S_lt 49 (by decide)) (S_49 nw nx g) rfl rfl (Nat.le_of_ble_eq_true rfl) rfl (Nat.le_refl _) (Nat.le_refl _) ?_
    refine c_X9_cellBits (T := T) (kd := kd) (x := z) (j := j + 4) hM hV hC hCE hv.1 hv.2.1 ?_
    replace hv := hv.2.2
    refine sw_callS (post' := post) (B' := B0) (As := [vl (((gMem P T kd z : Nat) : Int))]) (mc := 0) (ms := 0) (dX9_cellMany.at 19 rfl) lk_X9_353 rfl rfl (Nat.le_of_ble_eq_true rfl) rfl (Nat.le_refl _) (Nat.le_refl _) ?_
    refine c_X9_leastOf (s := (gMem P T kd z)) (j := j + 4) hv.1 hv.2.1 ?_
    replace hv := hv.2.2
    refine sw_iload_n (dX9_cellMany.at 20 rfl) rfl rfl ?_
    refine sw_icmpN_ne (lsb (gMem P T kd z)) z (tgt := 41) (dX9_cellMany.at 21 rfl) (by decide) hv.1 hv.2.1 (fun q => ?_) (fun q => ?_)
    · replace hv := hv.2.2.1 q
      refine sw_iconst (dX9_cellMany.at 24 rfl) ?_
      refine sw_iadd (dX9_cellMany.at 25 rfl) ?_
      refine sw_topI (y := ((a + 0 : Nat) : Int)) (by first | rfl | (congr 1)) ?_
      refine sw_istore_n (lo' := [some (vr (49)), some (vi (((kd : Nat) : Int))), some (vi (((a + 0 : Nat) : Int))), some (vi (((z : Nat) : Int)))]) (dX9_cellMany.at 26 rfl) rfl (by decide) rfl ?_
      refine sw_iinc (lo' := [some (vr (49)), some (vi (((kd : Nat) : Int))), some (vi (((a + 0 : Nat) : Int))), some (vi (((z + 1 : Nat) : Int)))]) (dX9_cellMany.at 27 rfl) rfl (by decide) rfl ?_
      refine sw_goto (tgt := 16) (dX9_cellMany.at 28 rfl) (by decide) ?_
      exact hv
    · replace hv := hv.2.2.2 q
      refine sw_iconst (dX9_cellMany.at 22 rfl) ?_
      refine sw_goto (tgt := 42) (dX9_cellMany.at 23 rfl) (by decide) ?_
      refine sw_iadd (dX9_cellMany.at 25 rfl) ?_
      refine sw_topI (y := ((a + 1 : Nat) : Int)) (by first | rfl | (congr 1)) ?_
      refine sw_istore_n (lo' := [some (vr (49)), some (vi (((kd : Nat) : Int))), some (vi (((a + 1 : Nat) : Int))), some (vi (((z : Nat) : Int)))]) (dX9_cellMany.at 26 rfl) rfl (by decide) rfl ?_
      refine sw_iinc (lo' := [some (vr (49)), some (vi (((kd : Nat) : Int))), some (vi (((a + 1 : Nat) : Int))), some (vi (((z + 1 : Nat) : Int)))]) (dX9_cellMany.at 27 rfl) rfl (by decide) rfl ?_
      refine sw_goto (tgt := 16) (dX9_cellMany.at 28 rfl) (by decide) ?_
      exact hv

set_option maxHeartbeats 4000000 in
theorem lp_X9_cellMany_16 {G : GG} {j nw nx gn : Nat} {g : Nat → Sh} {c : Nat → Nat → Int} {post : Option AV → AM → Prop} {P : GD} {T : PT} {kd : Nat} (hM : ML c P) (hV : GV P) (hC : GC P) (hCE : CE P T kd c) (hk : kd < 3) : ∀ (k : Nat) (z : Nat) (a : Nat), z + k = gN P → (post (some (vi (((a + cntD (pCm P T kd) k z : Nat) : Int)))) (S nw nx g, 78 + gn, c)) → SW G (j + 6) mX9_cellMany 16 [some (vr (49)), some (vi (((kd : Nat) : Int))), some (vi (((a : Nat) : Int))), some (vi (((z : Nat) : Int)))] [] (S nw nx g, 78 + gn, c) B0 post := by
  intro k
  induction k with
  | zero =>
    intro z a hrel  K
    have h60 := GV_N hV
    rw [cntD] at K
    refine g_X9_cellMany_16 hM hV hC hCE ?_
    refine ⟨?_, ?_, ⟨fun q => ?_, fun q => ⟨?_, ?_, ⟨?_, ?_, ⟨?_, ?_, ⟨fun q => ?_, fun q => ?_⟩⟩⟩⟩⟩⟩
    all_goals first | omega | exact K | (exfalso; omega)
  | succ k ih =>
    intro z a hrel  K
    have h60 := GV_N hV
    have g9 := gMem_ok (T := T) hV (kd := kd) (x := z) (by omega)
    have g8 : gMem P T kd z < 9223372036854775808 := Nat.lt_of_lt_of_le g9.2 (by decide)
    have l9 := isL_lt (lsb_is g9.1 (Nat.lt_trans g9.2 (by decide))) g9.2
    simp only [cntD, ← Nat.add_assoc] at K
    refine g_X9_cellMany_16 hM hV hC hCE ?_
    refine ⟨?_, ?_, ⟨fun q => ?_, fun q => ⟨?_, ?_, ⟨?_, ?_, ⟨?_, ?_, ⟨fun q => ?_, fun q => ?_⟩⟩⟩⟩⟩⟩
    all_goals first | omega | exact g9.1 | exact g8 | assumption | (exfalso; omega) | (rw [if_pos (show pCm P T kd z = true from decide_eq_true (by assumption))] at K; exact ih _ _ (by omega) K) | (rw [if_neg (show ¬ pCm P T kd z = true from fun h => (by assumption : lsb (gMem P T kd z) ≠ z) (of_decide_eq_true h))] at K; exact ih _ _ (by omega) K)

set_option maxHeartbeats 2000000 in
set_option maxRecDepth 20000 in
theorem g_X9_cellMany_0n {G : GG} {j nw nx gn : Nat} {g : Nat → Sh} {c : Nat → Nat → Int} {post : Option AV → AM → Prop} {kd : Nat} {P : GD} {T : PT} (hM : ML c P) (hV : GV P) (hC : GC P) (hG : GP P T) (hR : RR P T c) (hT : HT P T)  (hv : (0 < gN P) ∧ (kd < 3) ∧ (∀ c_1 : Nat → Nat → Int, (SD c c_1 ∧ RD P T c_1 ∧ CE P T kd c_1) → SW G (j + 6) mX9_cellMany 16 [some (vr (49)), some (vi (((kd : Nat) : Int))), some (vi (0)), some (vi (0))] [] (S nw nx g, 78 + gn, c_1) B0 post)) :
    SW G (j + 6) mX9_cellMany 0 [some (vr (49)), some (vi (((kd : Nat) : Int))), none, none] [] (S nw nx g, 78 + gn, c) B0 post := by
  refine sw_aload_n (dX9_cellMany.at 0 rfl) rfl rfl ?_
  refine sw_iconst (dX9_cellMany.at 1 rfl) ?_
  refine sw_iload_n (dX9_cellMany.at 2 rfl) rfl rfl ?_
  refine sw_callV (B' := B0) (As := [vi (0), vi (((kd : Nat) : Int))]) (mc := 0) (ms := 0) (dX9_cellMany.at 3 rfl) lk_X9_347 (S_lt 49 (by decide)) (S_49 nw nx g) rfl rfl (Nat.le_of_ble_eq_true rfl) rfl (Nat.le_refl _) (Nat.le_refl _) ?_
  refine c_X9_isCellAskedY (T := T) (x := 0) (kd := kd) (j := j + 0) hM hV hC hG hR hT hv.1 hv.2.1 (fun c_1 h_1 => ?_)
  replace hv := hv.2.2 c_1 h_1
  refine sw_if_ne (tgt := 12) (dX9_cellMany.at 4 rfl) (by decide) (by decide) (fun q => ?_) (fun q => ?_)
  · clear q
    refine sw_iconst (dX9_cellMany.at 7 rfl) ?_
    refine sw_istore_n (lo' := [some (vr (49)), some (vi (((kd : Nat) : Int))), some (vi (0)), none]) (dX9_cellMany.at 8 rfl) rfl (by decide) rfl ?_
    refine sw_iconst (dX9_cellMany.at 9 rfl) ?_
    refine sw_istore_n (lo' := [some (vr (49)), some (vi (((kd : Nat) : Int))), some (vi (0)), some (vi (0))]) (dX9_cellMany.at 10 rfl) rfl (by decide) rfl ?_
    exact hv
  · exact absurd q (by decide)

set_option maxHeartbeats 2000000 in
set_option maxRecDepth 20000 in
theorem g_X9_cellMany_0 {G : GG} {j nw nx gn : Nat} {g : Nat → Sh} {c : Nat → Nat → Int} {post : Option AV → AM → Prop} {kd : Int} {P : GD} {T : PT} (hM : ML c P) (hV : GV P) (hC : GC P) (hG : GP P T) (hR : RR P T c) (hT : HT P T)  (hv : (-2147483648 ≤ (0 : Int) ∧ (0 : Int) < 2147483648) ∧ (-2147483648 ≤ (kd : Int) ∧ (kd : Int) < 2147483648) ∧ (¬ ((0 ≤ (0 : Int) ∧ (0 : Int) < (gN P : Int)) ∧ 0 ≤ kd ∧ kd < 3)) ∧ (post (some (vi ((-2)))) (S nw nx g, 78 + gn, c))) :
    SW G (j + 6) mX9_cellMany 0 [some (vr (49)), some (vi (kd)), none, none] [] (S nw nx g, 78 + gn, c) B0 post := by
  refine sw_aload_n (dX9_cellMany.at 0 rfl) rfl rfl ?_
  refine sw_iconst (dX9_cellMany.at 1 rfl) ?_
  refine sw_iload_n (dX9_cellMany.at 2 rfl) rfl rfl ?_
  refine sw_callV (B' := B0) (As := [vi (0), vi (kd)]) (mc := 0) (ms := 0) (dX9_cellMany.at 3 rfl) lk_X9_347 (S_lt 49 (by decide)) (S_49 nw nx g) rfl rfl (Nat.le_of_ble_eq_true rfl) rfl (Nat.le_refl _) (Nat.le_refl _) ?_
  refine c_X9_isCellAskedN (T := T) (x := 0) (kd := kd) (j := j + 0) hM hV hC hG hR hT hv.1 hv.2.1 hv.2.2.1 ?_
  replace hv := hv.2.2.2
  refine sw_if_ne (tgt := 12) (dX9_cellMany.at 4 rfl) (by decide) (by decide) (fun q => ?_) (fun q => ?_)
  · exact absurd q (by decide)
  · clear q
    refine sw_bipush (dX9_cellMany.at 5 rfl) (by decide) ?_
    exact sw_iret (dX9_cellMany.at 6 rfl) rfl (Nat.le_refl _) (Nat.le_refl _) hv

set_option maxHeartbeats 4000000 in
theorem c_X9_cellMany {G : GG} {j nw nx gn : Nat} {g : Nat → Sh} {c : Nat → Nat → Int} {post : Option AV → AM → Prop} {P : GD} {T : PT} {kd : Int} (hM : ML c P) (hV : GV P) (hC : GC P) (hG : GP P T) (hR : RR P T c) (hT : HT P T) (p1 : -2147483648 ≤ kd ∧ kd < 2147483648) (K : ∀ c2 : Nat → Nat → Int, (SD c c2 ∧ RR P T c2) → post (some (vi (q_cellMany P T kd))) (S nw nx g, 78 + gn, c2)) : SM G (j + 7) mX9_cellMany [vr (49), vi (kd)] (S nw nx g, 78 + gn, c) 0 0 post := by
  refine sm_of wX9_cellMany rfl (Nat.le_of_ble_eq_true rfl) ?_
  have hN60 := GV_N hV
  have hR5 := GV_R hV
  by_cases hv : 0 < gN P ∧ 0 ≤ kd ∧ kd < 3
  · obtain ⟨kd, rfl⟩ : ∃ n : Nat, kd = (n : Int) := ⟨kd.toNat, by omega⟩
    have e : q_cellMany P T ((kd : Nat) : Int) = ((cntU (pCm P T kd) (gN P) : Nat) : Int) := by
      rw [q_cellMany, if_pos hv]
      simp only [Int.toNat_natCast]
    rw [e] at K
    have K1 : ∀ (z : Int) (c2 : Nat → Nat → Int), ((SD c c2 ∧ RR P T c2)) → z = (((cntU (pCm P T kd) (gN P) : Nat) : Int)) → post (some (vi z)) (S nw nx g, 78 + gn, c2) := fun z c2 h e9 => e9 ▸ K c2 h
    refine g_X9_cellMany_0n hM hV hC hG hR hT ?_
    refine ⟨?_, ?_, fun c_1 h_1 => ?_⟩
    all_goals first | omega | assumption | (exfalso; simp only [decide_eq_true_eq, decide_eq_false_iff_not] at *; omega) | exact lp_X9_cellMany_16 (ML_SD hM h_1.1) hV hC h_1.2.2 (by omega) (gN P) 0 0 (by omega) (by rw [Nat.zero_add, cntD_U]; exact K _ (by first | exact ⟨SD_rf, hR⟩ | exact ⟨h_1.1, Or.inr h_1.2.1⟩ | assumption)) | exact K _ (by first | exact ⟨SD_rf, hR⟩ | exact ⟨h_1.1, Or.inr h_1.2.1⟩ | assumption) | (refine K1 _ _ (by first | exact ⟨SD_rf, hR⟩ | exact ⟨h_1.1, Or.inr h_1.2.1⟩ | assumption) ?_; first | rfl | (simp [bz, *]; done) | (split <;> first | rfl | omega))
  · have e : q_cellMany P T kd = (-2) := by rw [q_cellMany, if_neg hv]
    rw [e] at K
    have K1 : ∀ (z : Int) (c2 : Nat → Nat → Int), ((SD c c2 ∧ RR P T c2)) → z = ((-2)) → post (some (vi z)) (S nw nx g, 78 + gn, c2) := fun z c2 h e9 => e9 ▸ K c2 h
    refine g_X9_cellMany_0 hM hV hC hG hR hT ?_
    refine ⟨?_, ?_, ?_, ?_⟩
    all_goals first | omega | assumption | (exfalso; simp only [decide_eq_true_eq, decide_eq_false_iff_not] at *; omega) | exact K _ (by first | exact ⟨SD_rf, hR⟩ | exact ⟨h_1.1, Or.inr h_1.2.1⟩ | assumption) | (refine K1 _ _ (by first | exact ⟨SD_rf, hR⟩ | exact ⟨h_1.1, Or.inr h_1.2.1⟩ | assumption) ?_; first | rfl | (simp [bz, *]; done) | (split <;> first | rfl | omega))

