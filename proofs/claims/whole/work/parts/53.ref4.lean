set_option maxHeartbeats 2000000 in
set_option maxRecDepth 20000 in
theorem g_X9_isSided_0 {G : GG} {j nw nx gn : Nat} {g : Nat → Sh} {c : Nat → Nat → Int} {post : Option AV → AM → Prop} {x : Int} {y : Int} {z : Int} {P : GD} (hM : ML c P) (hV : GV P)  (hv : (-2147483648 ≤ x ∧ x < 2147483648) ∧ ((((decide (0 ≤ x ∧ x < (gN P : Int))) = false) → post (some (vi (0))) (S nw nx g, 78 + gn, c)) ∧ (((decide (0 ≤ x ∧ x < (gN P : Int))) = true) → (-2147483648 ≤ y ∧ y < 2147483648) ∧ ((((decide (0 ≤ y ∧ y < (gN P : Int))) = false) → post (some (vi (0))) (S nw nx g, 78 + gn, c)) ∧ (((decide (0 ≤ y ∧ y < (gN P : Int))) = true) → (-2147483648 ≤ z ∧ z < 2147483648) ∧ ((-9223372036854775808 ≤ (z : Int) ∧ (z : Int) < 9223372036854775808) ∧ (-9223372036854775808 ≤ (0 : Int) ∧ (0 : Int) < 9223372036854775808) ∧ (-9223372036854775808 ≤ (1 : Int) ∧ (1 : Int) < 9223372036854775808) ∧ ((((decide (0 ≤ z ∧ z ≤ 1)) = false) → post (some (vi (0))) (S nw nx g, 78 + gn, c)) ∧ (((decide (0 ≤ z ∧ z ≤ 1)) = true) → post (some (vi (1))) (S nw nx g, 78 + gn, c))))))))) :
    SW G (j + 2) mX9_isSided 0 [some (vr (49)), some (vi (x)), some (vi (y)), some (vi (z))] [] (S nw nx g, 78 + gn, c) B0 post := by
  refine sw_aload_n (dX9_isSided.at 0 rfl) rfl rfl ?_
  refine sw_iload_n (dX9_isSided.at 1 rfl) rfl rfl ?_
  refine sw_callV (B' := B0) (As := [vi (x)]) (mc := 0) (ms := 0) (dX9_isSided.at 2 rfl) lk_X9_251 (S_lt 49 (by decide)) (S_49 nw nx g) rfl rfl (Nat.le_of_ble_eq_true rfl) rfl (Nat.le_refl _) (Nat.le_refl _) ?_
  refine c_X9_isElement (x := x) (j := j + 0) hM hV hv.1 ?_
  replace hv := hv.2
  refine sw_if_eq (tgt := 30) (dX9_isSided.at 3 rfl) (by decide) (bz_rng _) (fun q => ?_) (fun q => ?_)
  · replace hv := hv.1 (bz_0 q)
    refine sw_iconst (dX9_isSided.at 16 rfl) ?_
    exact sw_zret (dX9_isSided.at 17 rfl) rfl (by decide) (Nat.le_refl _) (Nat.le_refl _) hv
  · replace hv := hv.2 (bz_n0 q)
    refine sw_aload_n (dX9_isSided.at 4 rfl) rfl rfl ?_
    refine sw_iload_n (dX9_isSided.at 5 rfl) rfl rfl ?_
    refine sw_callV (B' := B0) (As := [vi (y)]) (mc := 0) (ms := 0) (dX9_isSided.at 6 rfl) lk_X9_251 (S_lt 49 (by decide)) (S_49 nw nx g) rfl rfl (Nat.le_of_ble_eq_true rfl) rfl (Nat.le_refl _) (Nat.le_refl _) ?_
    refine c_X9_isElement (x := y) (j := j + 0) hM hV hv.1 ?_
    replace hv := hv.2
    refine sw_if_eq (tgt := 30) (dX9_isSided.at 7 rfl) (by decide) (bz_rng _) (fun q => ?_) (fun q => ?_)
    · replace hv := hv.1 (bz_0 q)
      refine sw_iconst (dX9_isSided.at 16 rfl) ?_
      exact sw_zret (dX9_isSided.at 17 rfl) rfl (by decide) (Nat.le_refl _) (Nat.le_refl _) hv
    · replace hv := hv.2 (bz_n0 q)
      refine sw_iload_n (dX9_isSided.at 8 rfl) rfl rfl ?_
      refine sw_i2l (dX9_isSided.at 9 rfl) hv.1 ?_
      replace hv := hv.2
      refine sw_lconst (z := 0) (dX9_isSided.at 10 rfl) (by decide) ?_
      refine sw_lconst (z := 1) (dX9_isSided.at 11 rfl) (by decide) ?_
      refine sw_callS (post' := post) (B' := B0) (As := [vl (z), vl (0), vl (1)]) (mc := 0) (ms := 0) (dX9_isSided.at 12 rfl) lk_X9_104 rfl rfl (Nat.le_of_ble_eq_true rfl) rfl (Nat.le_refl _) (Nat.le_refl _) ?_
      refine c_X9_in (u := z) (lo := 0) (hi := 1) (j := j + 1) hv.1 hv.2.1 hv.2.2.1 ?_
      replace hv := hv.2.2.2
      refine sw_if_eq (tgt := 30) (dX9_isSided.at 13 rfl) (by decide) (bz_rng _) (fun q => ?_) (fun q => ?_)
      · replace hv := hv.1 (bz_0 q)
        refine sw_iconst (dX9_isSided.at 16 rfl) ?_
        exact sw_zret (dX9_isSided.at 17 rfl) rfl (by decide) (Nat.le_refl _) (Nat.le_refl _) hv
      · replace hv := hv.2 (bz_n0 q)
        refine sw_iconst (dX9_isSided.at 14 rfl) ?_
        refine sw_goto (tgt := 31) (dX9_isSided.at 15 rfl) (by decide) ?_
        exact sw_zret (dX9_isSided.at 17 rfl) rfl (by decide) (Nat.le_refl _) (Nat.le_refl _) hv

set_option maxHeartbeats 2000000 in
theorem c_X9_isSided {G : GG} {j nw nx gn : Nat} {g : Nat → Sh} {c : Nat → Nat → Int} {post : Option AV → AM → Prop} {P : GD} {x : Int} {y : Int} {z : Int} (hM : ML c P) (hV : GV P) (p1 : -2147483648 ≤ x ∧ x < 2147483648) (p2 : -2147483648 ≤ y ∧ y < 2147483648) (p3 : -2147483648 ≤ z ∧ z < 2147483648) (K : post (some (vi (bz (decide (((0 ≤ x ∧ x < (gN P : Int)) ∧ 0 ≤ y ∧ y < (gN P : Int)) ∧ 0 ≤ z ∧ z < 2))))) (S nw nx g, 78 + gn, c)) : SM G (j + 3) mX9_isSided [vr (49), vi (x), vi (y), vi (z)] (S nw nx g, 78 + gn, c) 0 0 post := by
  refine sm_of wX9_isSided rfl (Nat.le_of_ble_eq_true rfl) ?_
  refine g_X9_isSided_0 hM hV ?_
  have := GV_N hV
  have K1 : ∀ v : Int, v = bz (decide (((0 ≤ x ∧ x < (gN P : Int)) ∧ 0 ≤ y ∧ y < (gN P : Int)) ∧ 0 ≤ z ∧ z < 2)) → post (some (vi v)) (S nw nx g, 78 + gn, c) := fun v h => h ▸ K
  refine ⟨?_, ⟨fun q => ?_, fun q => ⟨?_, ⟨fun q => ?_, fun q => ⟨?_, ⟨?_, ?_, ?_, ⟨fun q => ?_, fun q => ?_⟩⟩⟩⟩⟩⟩⟩
  all_goals (try simp only [decide_eq_true_eq, decide_eq_false_iff_not] at *)
  all_goals first | omega | assumption | (refine K1 _ ?_; simp only [bz, decide_eq_true_eq]; (repeat' split) <;> first | rfl | omega)

set_option maxHeartbeats 2000000 in
set_option maxRecDepth 20000 in
theorem g_X9_isWeak_0 {G : GG} {j nw nx gn : Nat} {g : Nat → Sh} {c : Nat → Nat → Int} {post : Option AV → AM → Prop} {v : Nat} {w : Nat} {sd : Nat} {P : GD} (hM : ML c P) (hV : GV P) (hC : GC P)  (hv : (sd < 2147483648) ∧ (((sd ≠ 1) → (v < gN P) ∧ ((w < gN P) ∧ ((gI P v) < gN P) ∧ (∀ c_1 : Nat → Nat → Int, SC c c_1 → (w < gN P) ∧ ((v < gN P) ∧ ((gX P w (gI P v) < gN P) ∧ ((gL P w < 2147483648) ∧ ((gL P v) + (gL P (gX P w (gI P v))) < 2147483648) ∧ (((gL P w ≠ (gL P v) + (gL P (gX P w (gI P v)))) → post (some (vi (0))) (S nw nx g, 78 + gn, c_1)) ∧ ((gL P w = (gL P v) + (gL P (gX P w (gI P v)))) → post (some (vi (1))) (S nw nx g, 78 + gn, c_1))))))))) ∧ ((sd = 1) → (v < gN P) ∧ (((gI P v) < gN P) ∧ (w < gN P) ∧ (∀ c_2 : Nat → Nat → Int, SC c c_2 → (w < gN P) ∧ ((v < gN P) ∧ ((gX P (gI P v) w < gN P) ∧ ((gL P w < 2147483648) ∧ ((gL P v) + (gL P (gX P (gI P v) w)) < 2147483648) ∧ (((gL P w ≠ (gL P v) + (gL P (gX P (gI P v) w))) → post (some (vi (0))) (S nw nx g, 78 + gn, c_2)) ∧ ((gL P w = (gL P v) + (gL P (gX P (gI P v) w))) → post (some (vi (1))) (S nw nx g, 78 + gn, c_2))))))))))) :
    SW G (j + 2) mX9_isWeak 0 [some (vr (49)), some (vi (((v : Nat) : Int))), some (vi (((w : Nat) : Int))), some (vi (((sd : Nat) : Int))), none] [] (S nw nx g, 78 + gn, c) B0 post := by
  refine sw_iload_n (dX9_isWeak.at 0 rfl) rfl rfl ?_
  refine sw_iconst (dX9_isWeak.at 1 rfl) ?_
  refine sw_icmpN_ne sd 1 (tgt := 19) (dX9_isWeak.at 2 rfl) (by decide) hv.1 (by decide) (fun q => ?_) (fun q => ?_)
  · replace hv := hv.2.1 q
    refine sw_aload_n (dX9_isWeak.at 11 rfl) rfl rfl ?_
    refine sw_iload_n (dX9_isWeak.at 12 rfl) rfl rfl ?_
    refine sw_aload_n (dX9_isWeak.at 13 rfl) rfl rfl ?_
    refine sw_getR (dX9_isWeak.at 14 rfl) fp_X9_41 (S_lt 49 (by decide)) (S_49 nw nx g) rfl rfl ?_
    refine sw_iload_n (dX9_isWeak.at 15 rfl) rfl rfl ?_
    refine sw_ialdN v (w := ((gI P v : Nat) : Int)) (dX9_isWeak.at 16 rfl) (S_lt 59 (by decide)) (S_59 nw nx g) (by decide) (GV_lt hV hv.1) (ML_I hM hv.1) ?_
    replace hv := hv.2
    refine sw_callV (B' := B0) (As := [vi (((w : Nat) : Int)), vi (((gI P v : Nat) : Int))]) (mc := 0) (ms := 0) (dX9_isWeak.at 17 rfl) lk_X9_237 (S_lt 49 (by decide)) (S_49 nw nx g) rfl rfl (Nat.le_of_ble_eq_true rfl) rfl (Nat.le_refl _) (Nat.le_refl _) ?_
    refine c_X9_product (x := w) (y := (gI P v)) (j := j + 0) hM hV hC hv.1 hv.2.1 (fun c_1 h_1 => ?_)
    replace hv := hv.2.2 c_1 h_1
    refine sw_istore (lo' := [some (vr (49)), some (vi (((v : Nat) : Int))), some (vi (((w : Nat) : Int))), some (vi (((sd : Nat) : Int))), some (vi (((gX P w (gI P v) : Nat) : Int)))]) (dX9_isWeak.at 18 rfl) (by decide) rfl ?_
    refine sw_aload_n (dX9_isWeak.at 19 rfl) rfl rfl ?_
    refine sw_getR (dX9_isWeak.at 20 rfl) fp_X9_32 (S_lt 49 (by decide)) (S_49 nw nx g) rfl rfl ?_
    refine sw_iload_n (dX9_isWeak.at 21 rfl) rfl rfl ?_
    refine sw_ialdN w (w := ((gL P w : Nat) : Int)) (dX9_isWeak.at 22 rfl) (S_lt 56 (by decide)) (S_56 nw nx g) (by decide) (GV_lt hV hv.1) (ML_L (ML_SC hM (SC_tr SC_rf h_1)) hv.1) ?_
    replace hv := hv.2
    refine sw_aload_n (dX9_isWeak.at 23 rfl) rfl rfl ?_
    refine sw_getR (dX9_isWeak.at 24 rfl) fp_X9_32 (S_lt 49 (by decide)) (S_49 nw nx g) rfl rfl ?_
    refine sw_iload_n (dX9_isWeak.at 25 rfl) rfl rfl ?_
    refine sw_ialdN v (w := ((gL P v : Nat) : Int)) (dX9_isWeak.at 26 rfl) (S_lt 56 (by decide)) (S_56 nw nx g) (by decide) (GV_lt hV hv.1) (ML_L (ML_SC hM (SC_tr SC_rf h_1)) hv.1) ?_
    replace hv := hv.2
    refine sw_aload_n (dX9_isWeak.at 27 rfl) rfl rfl ?_
    refine sw_getR (dX9_isWeak.at 28 rfl) fp_X9_32 (S_lt 49 (by decide)) (S_49 nw nx g) rfl rfl ?_
    refine sw_iload (dX9_isWeak.at 29 rfl) rfl ?_
    refine sw_ialdN (gX P w (gI P v)) (w := ((gL P (gX P w (gI P v)) : Nat) : Int)) (dX9_isWeak.at 30 rfl) (S_lt 56 (by decide)) (S_56 nw nx g) (by decide) (GV_lt hV hv.1) (ML_L (ML_SC hM (SC_tr SC_rf h_1)) hv.1) ?_
    replace hv := hv.2
    refine sw_iadd (dX9_isWeak.at 31 rfl) ?_
    refine sw_topI (y := (((gL P v) + (gL P (gX P w (gI P v))) : Nat) : Int)) (by first | rfl | (congr 1)) ?_
    refine sw_icmpN_ne (gL P w) ((gL P v) + (gL P (gX P w (gI P v)))) (tgt := 59) (dX9_isWeak.at 32 rfl) (by decide) hv.1 hv.2.1 (fun q => ?_) (fun q => ?_)
    · replace hv := hv.2.2.1 q
      refine sw_iconst (dX9_isWeak.at 35 rfl) ?_
      exact sw_zret (dX9_isWeak.at 36 rfl) rfl (by decide) (Nat.le_refl _) (Nat.le_refl _) hv
    · replace hv := hv.2.2.2 q
      refine sw_iconst (dX9_isWeak.at 33 rfl) ?_
      refine sw_goto (tgt := 60) (dX9_isWeak.at 34 rfl) (by decide) ?_
      exact sw_zret (dX9_isWeak.at 36 rfl) rfl (by decide) (Nat.le_refl _) (Nat.le_refl _) hv
  · replace hv := hv.2.2 q
    refine sw_aload_n (dX9_isWeak.at 3 rfl) rfl rfl ?_
    refine sw_aload_n (dX9_isWeak.at 4 rfl) rfl rfl ?_
    refine sw_getR (dX9_isWeak.at 5 rfl) fp_X9_41 (S_lt 49 (by decide)) (S_49 nw nx g) rfl rfl ?_
    refine sw_iload_n (dX9_isWeak.at 6 rfl) rfl rfl ?_
    refine sw_ialdN v (w := ((gI P v : Nat) : Int)) (dX9_isWeak.at 7 rfl) (S_lt 59 (by decide)) (S_59 nw nx g) (by decide) (GV_lt hV hv.1) (ML_I hM hv.1) ?_
    replace hv := hv.2
    refine sw_iload_n (dX9_isWeak.at 8 rfl) rfl rfl ?_
    refine sw_callV (B' := B0) (As := [vi (((gI P v : Nat) : Int)), vi (((w : Nat) : Int))]) (mc := 0) (ms := 0) (dX9_isWeak.at 9 rfl) lk_X9_237 (S_lt 49 (by decide)) (S_49 nw nx g) rfl rfl (Nat.le_of_ble_eq_true rfl) rfl (Nat.le_refl _) (Nat.le_refl _) ?_
    refine c_X9_product (x := (gI P v)) (y := w) (j := j + 0) hM hV hC hv.1 hv.2.1 (fun c_2 h_2 => ?_)
    replace hv := hv.2.2 c_2 h_2
    refine sw_goto (tgt := 30) (dX9_isWeak.at 10 rfl) (by decide) ?_
    refine sw_istore (lo' := [some (vr (49)), some (vi (((v : Nat) : Int))), some (vi (((w : Nat) : Int))), some (vi (((sd : Nat) : Int))), some (vi (((gX P (gI P v) w : Nat) : Int)))]) (dX9_isWeak.at 18 rfl) (by decide) rfl ?_
    refine sw_aload_n (dX9_isWeak.at 19 rfl) rfl rfl ?_
    refine sw_getR (dX9_isWeak.at 20 rfl) fp_X9_32 (S_lt 49 (by decide)) (S_49 nw nx g) rfl rfl ?_
    refine sw_iload_n (dX9_isWeak.at 21 rfl) rfl rfl ?_
    refine sw_ialdN w (w := ((gL P w : Nat) : Int)) (dX9_isWeak.at 22 rfl) (S_lt 56 (by decide)) (S_56 nw nx g) (by decide) (GV_lt hV hv.1) (ML_L (ML_SC hM (SC_tr SC_rf h_2)) hv.1) ?_
    replace hv := hv.2
    refine sw_aload_n (dX9_isWeak.at 23 rfl) rfl rfl ?_
    refine sw_getR (dX9_isWeak.at 24 rfl) fp_X9_32 (S_lt 49 (by decide)) (S_49 nw nx g) rfl rfl ?_
    refine sw_iload_n (dX9_isWeak.at 25 rfl) rfl rfl ?_
    refine sw_ialdN v (w := ((gL P v : Nat) : Int)) (dX9_isWeak.at 26 rfl) (S_lt 56 (by decide)) (S_56 nw nx g) (by decide) (GV_lt hV hv.1) (ML_L (ML_SC hM (SC_tr SC_rf h_2)) hv.1) ?_
    replace hv := hv.2
    refine sw_aload_n (dX9_isWeak.at 27 rfl) rfl rfl ?_
    refine sw_getR (dX9_isWeak.at 28 rfl) fp_X9_32 (S_lt 49 (by decide)) (S_49 nw nx g) rfl rfl ?_
    refine sw_iload (dX9_isWeak.at 29 rfl) rfl ?_
    refine sw_ialdN (gX P (gI P v) w) (w := ((gL P (gX P (gI P v) w) : Nat) : Int)) (dX9_isWeak.at 30 rfl) (S_lt 56 (by decide)) (S_56 nw nx g) (by decide) (GV_lt hV hv.1) (ML_L (ML_SC hM (SC_tr SC_rf h_2)) hv.1) ?_
    replace hv := hv.2
    refine sw_iadd (dX9_isWeak.at 31 rfl) ?_
    refine sw_topI (y := (((gL P v) + (gL P (gX P (gI P v) w)) : Nat) : Int)) (by first | rfl | (congr 1)) ?_
    refine sw_icmpN_ne (gL P w) ((gL P v) + (gL P (gX P (gI P v) w))) (tgt := 59) (dX9_isWeak.at 32 rfl) (by decide) hv.1 hv.2.1 (fun q => ?_) (fun q => ?_)
    · replace hv := hv.2.2.1 q
      refine sw_iconst (dX9_isWeak.at 35 rfl) ?_
      exact sw_zret (dX9_isWeak.at 36 rfl) rfl (by decide) (Nat.le_refl _) (Nat.le_refl _) hv
    · replace hv := hv.2.2.2 q
      refine sw_iconst (dX9_isWeak.at 33 rfl) ?_
      refine sw_goto (tgt := 60) (dX9_isWeak.at 34 rfl) (by decide) ?_
      exact sw_zret (dX9_isWeak.at 36 rfl) rfl (by decide) (Nat.le_refl _) (Nat.le_refl _) hv

set_option maxHeartbeats 2000000 in
theorem c_X9_isWeak {G : GG} {j nw nx gn : Nat} {g : Nat → Sh} {c : Nat → Nat → Int} {post : Option AV → AM → Prop} {P : GD} {v : Nat} {w : Nat} {sd : Nat} (hM : ML c P) (hV : GV P) (hC : GC P) (p1 : v < gN P) (p2 : w < gN P) (p3 : sd < 2) (K : ∀ c2 : Nat → Nat → Int, SC c c2 → post (some (vi (bz (gWk P v w sd)))) (S nw nx g, 78 + gn, c2)) : SM G (j + 3) mX9_isWeak [vr (49), vi (((v : Nat) : Int)), vi (((w : Nat) : Int)), vi (((sd : Nat) : Int))] (S nw nx g, 78 + gn, c) 0 0 post := by
  refine sm_of wX9_isWeak rfl (Nat.le_of_ble_eq_true rfl) ?_
  refine g_X9_isWeak_0 hM hV hC ?_
  have a1 := (hV.2.2.1 v p1).1
  have a2 := (hV.2.2.1 w p2).1
  have a3 := (hV.2.2.1 v p1).2.2.2.1
  have b1 := hV.2.2.2.2.1 w (gI P v) p2 a3
  have b2 := hV.2.2.2.2.1 (gI P v) w a3 p2
  have b3 := (hV.2.2.1 _ b1).1
  have b4 := (hV.2.2.1 _ b2).1
  have K1 : ∀ (z : Int) (c2 : Nat → Nat → Int), SC c c2 → z = bz (gWk P v w sd) → post (some (vi z)) (S nw nx g, 78 + gn, c2) := fun z c2 h e => e ▸ K c2 h
  refine ⟨?_, ⟨fun q => ⟨?_, ⟨?_, ?_, fun c_1 h_1 => ⟨?_, ⟨?_, ⟨?_, ⟨?_, ?_, ⟨fun q => ?_, fun q => ?_⟩⟩⟩⟩⟩⟩⟩, fun q => ⟨?_, ⟨?_, ?_, fun c_2 h_2 => ⟨?_, ⟨?_, ⟨?_, ⟨?_, ?_, ⟨fun q => ?_, fun q => ?_⟩⟩⟩⟩⟩⟩⟩⟩⟩
  all_goals first | omega | assumption | (refine K1 _ _ (by assumption) ?_; have e9 : sd = 1 := (by omega); simp [gWk, bz, *]; done) | (refine K1 _ _ (by assumption) ?_; have e9 : sd = 0 := (by omega); simp [gWk, bz, *]; done)

set_option maxHeartbeats 2000000 in
set_option maxRecDepth 20000 in
theorem g_X9_weakly_0n {G : GG} {j nw nx gn : Nat} {g : Nat → Sh} {c : Nat → Nat → Int} {post : Option AV → AM → Prop} {x : Nat} {y : Nat} {sd : Nat} {P : GD} (hM : ML c P) (hV : GV P) (hC : GC P)  (hv : (-2147483648 ≤ ((x : Nat) : Int) ∧ ((x : Nat) : Int) < 2147483648) ∧ (-2147483648 ≤ ((y : Nat) : Int) ∧ ((y : Nat) : Int) < 2147483648) ∧ (-2147483648 ≤ ((sd : Nat) : Int) ∧ ((sd : Nat) : Int) < 2147483648) ∧ ((((decide (((0 ≤ ((x : Nat) : Int) ∧ ((x : Nat) : Int) < (gN P : Int)) ∧ 0 ≤ ((y : Nat) : Int) ∧ ((y : Nat) : Int) < (gN P : Int)) ∧ 0 ≤ ((sd : Nat) : Int) ∧ ((sd : Nat) : Int) < 2)) = true) → (x < gN P) ∧ (y < gN P) ∧ (sd < 2) ∧ (∀ c_1 : Nat → Nat → Int, SC c c_1 → (((gWk P x y sd) = false) → post (some (vi (0))) (S nw nx g, 78 + gn, c_1)) ∧ (((gWk P x y sd) = true) → post (some (vi (1))) (S nw nx g, 78 + gn, c_1)))) ∧ (((decide (((0 ≤ ((x : Nat) : Int) ∧ ((x : Nat) : Int) < (gN P : Int)) ∧ 0 ≤ ((y : Nat) : Int) ∧ ((y : Nat) : Int) < (gN P : Int)) ∧ 0 ≤ ((sd : Nat) : Int) ∧ ((sd : Nat) : Int) < 2)) = false) → post (some (vi ((-2)))) (S nw nx g, 78 + gn, c)))) :
    SW G (j + 3) mX9_weakly 0 [some (vr (49)), some (vi (((x : Nat) : Int))), some (vi (((y : Nat) : Int))), some (vi (((sd : Nat) : Int)))] [] (S nw nx g, 78 + gn, c) B0 post := by
  refine sw_aload_n (dX9_weakly.at 0 rfl) rfl rfl ?_
  refine sw_iload_n (dX9_weakly.at 1 rfl) rfl rfl ?_
  refine sw_iload_n (dX9_weakly.at 2 rfl) rfl rfl ?_
  refine sw_iload_n (dX9_weakly.at 3 rfl) rfl rfl ?_
  refine sw_callV (B' := B0) (As := [vi (((x : Nat) : Int)), vi (((y : Nat) : Int)), vi (((sd : Nat) : Int))]) (mc := 0) (ms := 0) (dX9_weakly.at 4 rfl) lk_X9_375 (S_lt 49 (by decide)) (S_49 nw nx g) rfl rfl (Nat.le_of_ble_eq_true rfl) rfl (Nat.le_refl _) (Nat.le_refl _) ?_
  refine c_X9_isSided (x := ((x : Nat) : Int)) (y := ((y : Nat) : Int)) (z := ((sd : Nat) : Int)) (j := j + 0) hM hV hv.1 hv.2.1 hv.2.2.1 ?_
  replace hv := hv.2.2.2
  refine sw_if_ne (tgt := 15) (dX9_weakly.at 5 rfl) (by decide) (bz_rng _) (fun q => ?_) (fun q => ?_)
  · replace hv := hv.1 (bz_1 q)
    refine sw_aload_n (dX9_weakly.at 8 rfl) rfl rfl ?_
    refine sw_iload_n (dX9_weakly.at 9 rfl) rfl rfl ?_
    refine sw_iload_n (dX9_weakly.at 10 rfl) rfl rfl ?_
    refine sw_iload_n (dX9_weakly.at 11 rfl) rfl rfl ?_
    refine sw_callV (B' := B0) (As := [vi (((x : Nat) : Int)), vi (((y : Nat) : Int)), vi (((sd : Nat) : Int))]) (mc := 0) (ms := 0) (dX9_weakly.at 12 rfl) lk_X9_378 (S_lt 49 (by decide)) (S_49 nw nx g) rfl rfl (Nat.le_of_ble_eq_true rfl) rfl (Nat.le_refl _) (Nat.le_refl _) ?_
    refine c_X9_isWeak (v := x) (w := y) (sd := sd) (j := j + 0) hM hV hC hv.1 hv.2.1 hv.2.2.1 (fun c_1 h_1 => ?_)
    replace hv := hv.2.2.2 c_1 h_1
    refine sw_if_eq (tgt := 29) (dX9_weakly.at 13 rfl) (by decide) (bz_rng _) (fun q => ?_) (fun q => ?_)
    · replace hv := hv.1 (bz_0 q)
      refine sw_iconst (dX9_weakly.at 16 rfl) ?_
      exact sw_iret (dX9_weakly.at 17 rfl) rfl (Nat.le_refl _) (Nat.le_refl _) hv
    · replace hv := hv.2 (bz_n0 q)
      refine sw_iconst (dX9_weakly.at 14 rfl) ?_
      refine sw_goto (tgt := 30) (dX9_weakly.at 15 rfl) (by decide) ?_
      exact sw_iret (dX9_weakly.at 17 rfl) rfl (Nat.le_refl _) (Nat.le_refl _) hv
  · replace hv := hv.2 (bz_n1 q)
    refine sw_bipush (dX9_weakly.at 6 rfl) (by decide) ?_
    refine sw_goto (tgt := 30) (dX9_weakly.at 7 rfl) (by decide) ?_
    exact sw_iret (dX9_weakly.at 17 rfl) rfl (Nat.le_refl _) (Nat.le_refl _) hv

set_option maxHeartbeats 2000000 in
set_option maxRecDepth 20000 in
theorem g_X9_weakly_0 {G : GG} {j nw nx gn : Nat} {g : Nat → Sh} {c : Nat → Nat → Int} {post : Option AV → AM → Prop} {x : Int} {y : Int} {sd : Int} {P : GD} (hM : ML c P) (hV : GV P) (hC : GC P)  (hv : (-2147483648 ≤ x ∧ x < 2147483648) ∧ (-2147483648 ≤ y ∧ y < 2147483648) ∧ (-2147483648 ≤ sd ∧ sd < 2147483648) ∧ ((((decide (((0 ≤ x ∧ x < (gN P : Int)) ∧ 0 ≤ y ∧ y < (gN P : Int)) ∧ 0 ≤ sd ∧ sd < 2)) = true) → SW G (j + 3) mX9_weakly 19 [some (vr (49)), some (vi (x)), some (vi (y)), some (vi (sd))] [vi (sd), vi (y), vi (x), vr (49)] (S nw nx g, 78 + gn, c) B0 post) ∧ (((decide (((0 ≤ x ∧ x < (gN P : Int)) ∧ 0 ≤ y ∧ y < (gN P : Int)) ∧ 0 ≤ sd ∧ sd < 2)) = false) → post (some (vi ((-2)))) (S nw nx g, 78 + gn, c)))) :
    SW G (j + 3) mX9_weakly 0 [some (vr (49)), some (vi (x)), some (vi (y)), some (vi (sd))] [] (S nw nx g, 78 + gn, c) B0 post := by
  refine sw_aload_n (dX9_weakly.at 0 rfl) rfl rfl ?_
  refine sw_iload_n (dX9_weakly.at 1 rfl) rfl rfl ?_
  refine sw_iload_n (dX9_weakly.at 2 rfl) rfl rfl ?_
  refine sw_iload_n (dX9_weakly.at 3 rfl) rfl rfl ?_
  refine sw_callV (B' := B0) (As := [vi (x), vi (y), vi (sd)]) (mc := 0) (ms := 0) (dX9_weakly.at 4 rfl) lk_X9_375 (S_lt 49 (by decide)) (S_49 nw nx g) rfl rfl (Nat.le_of_ble_eq_true rfl) rfl (Nat.le_refl _) (Nat.le_refl _) ?_
  refine c_X9_isSided (x := x) (y := y) (z := sd) (j := j + 0) hM hV hv.1 hv.2.1 hv.2.2.1 ?_
  replace hv := hv.2.2.2
  refine sw_if_ne (tgt := 15) (dX9_weakly.at 5 rfl) (by decide) (bz_rng _) (fun q => ?_) (fun q => ?_)
  · replace hv := hv.1 (bz_1 q)
    refine sw_aload_n (dX9_weakly.at 8 rfl) rfl rfl ?_
    refine sw_iload_n (dX9_weakly.at 9 rfl) rfl rfl ?_
    refine sw_iload_n (dX9_weakly.at 10 rfl) rfl rfl ?_
    refine sw_iload_n (dX9_weakly.at 11 rfl) rfl rfl ?_
    exact hv
  · replace hv := hv.2 (bz_n1 q)
    refine sw_bipush (dX9_weakly.at 6 rfl) (by decide) ?_
    refine sw_goto (tgt := 30) (dX9_weakly.at 7 rfl) (by decide) ?_
    exact sw_iret (dX9_weakly.at 17 rfl) rfl (Nat.le_refl _) (Nat.le_refl _) hv

set_option maxHeartbeats 4000000 in
theorem c_X9_weakly {G : GG} {j nw nx gn : Nat} {g : Nat → Sh} {c : Nat → Nat → Int} {post : Option AV → AM → Prop} {P : GD} {x y sd : Int} (hM : ML c P) (hV : GV P) (hC : GC P) (p1 : -2147483648 ≤ x ∧ x < 2147483648) (p2 : -2147483648 ≤ y ∧ y < 2147483648) (p3 : -2147483648 ≤ sd ∧ sd < 2147483648) (K : ∀ c2 : Nat → Nat → Int, SC c c2 → post (some (vi (q_weakly P x y sd))) (S nw nx g, 78 + gn, c2)) : SM G (j + 4) mX9_weakly [vr (49), vi (x), vi (y), vi (sd)] (S nw nx g, 78 + gn, c) 0 0 post := by
  refine sm_of wX9_weakly rfl (Nat.le_of_ble_eq_true rfl) ?_
  have hN60 := GV_N hV
  have hR5 := GV_R hV
  by_cases hv : ((0 ≤ x ∧ x < (gN P : Int)) ∧ 0 ≤ y ∧ y < (gN P : Int)) ∧ 0 ≤ sd ∧ sd < 2
  · obtain ⟨x, rfl⟩ : ∃ n : Nat, x = (n : Int) := ⟨x.toNat, by omega⟩
    obtain ⟨y, rfl⟩ : ∃ n : Nat, y = (n : Int) := ⟨y.toNat, by omega⟩
    obtain ⟨sd, rfl⟩ : ∃ n : Nat, sd = (n : Int) := ⟨sd.toNat, by omega⟩
    have e : q_weakly P ((x : Nat) : Int) ((y : Nat) : Int) ((sd : Nat) : Int) = bz (gWk P x y sd) := by
      rw [q_weakly, if_pos hv]
      simp only [Int.toNat_natCast]
    rw [e] at K
    have K1 : ∀ (z : Int) (c2 : Nat → Nat → Int), (SC c c2) → z = (bz (gWk P x y sd)) → post (some (vi z)) (S nw nx g, 78 + gn, c2) := fun z c2 h e9 => e9 ▸ K c2 h
    have hx : x < gN P := by omega
    have fx := hV.2.2.1 x hx
    have hy : y < gN P := by omega
    have fy := hV.2.2.1 y hy
    refine g_X9_weakly_0n hM hV hC ?_
    refine ⟨?_, ?_, ?_, ⟨fun q => ⟨?_, ?_, ?_, fun c_1 h_1 => ⟨fun q => ?_, fun q => ?_⟩⟩, fun q => ?_⟩⟩
    all_goals first | omega | assumption | (exfalso; simp only [decide_eq_true_eq, decide_eq_false_iff_not] at *; omega) | exact K _ (by first | exact SC_rf | assumption | (refine SC_tr ?_ (by assumption); first | assumption | (refine SC_tr ?_ (by assumption); first | assumption | (refine SC_tr ?_ (by assumption); assumption)))) | (refine K1 _ _ (by first | exact SC_rf | assumption | (refine SC_tr ?_ (by assumption); first | assumption | (refine SC_tr ?_ (by assumption); first | assumption | (refine SC_tr ?_ (by assumption); assumption)))) ?_; first | rfl | (simp [bz, *]; done) | (split <;> first | rfl | omega))
  · have e : q_weakly P x y sd = (-2) := by rw [q_weakly, if_neg hv]
    rw [e] at K
    have K1 : ∀ (z : Int) (c2 : Nat → Nat → Int), (SC c c2) → z = ((-2)) → post (some (vi z)) (S nw nx g, 78 + gn, c2) := fun z c2 h e9 => e9 ▸ K c2 h
    refine g_X9_weakly_0 hM hV hC ?_
    refine ⟨?_, ?_, ?_, ⟨fun q => ?_, fun q => ?_⟩⟩
    all_goals first | omega | assumption | (exfalso; simp only [decide_eq_true_eq, decide_eq_false_iff_not] at *; omega) | exact K _ (by first | exact SC_rf | assumption | (refine SC_tr ?_ (by assumption); first | assumption | (refine SC_tr ?_ (by assumption); first | assumption | (refine SC_tr ?_ (by assumption); assumption)))) | (refine K1 _ _ (by first | exact SC_rf | assumption | (refine SC_tr ?_ (by assumption); first | assumption | (refine SC_tr ?_ (by assumption); first | assumption | (refine SC_tr ?_ (by assumption); assumption)))) ?_; first | rfl | (simp [bz, *]; done) | (split <;> first | rfl | omega))

set_option maxHeartbeats 2000000 in
set_option maxRecDepth 20000 in
theorem g_X9_weakMany_18 {G : GG} {j nw nx gn : Nat} {g : Nat → Sh} {c : Nat → Nat → Int} {post : Option AV → AM → Prop} {x : Nat} {sd : Nat} {P : GD} {z : Nat} {a : Nat} (hM : ML c P) (hV : GV P) (hC : GC P)  (hv : (z < 2147483648) ∧ (gN P < 2147483648) ∧ (((gN P ≤ z) → post (some (vi (((a : Nat) : Int)))) (S nw nx g, 78 + gn, c)) ∧ ((¬ (gN P ≤ z)) → (z < gN P) ∧ (x < gN P) ∧ (sd < 2) ∧ (∀ c_1 : Nat → Nat → Int, SC c c_1 → (((gWk P z x sd) = false) → SW G (j + 3) mX9_weakMany 18 [some (vr (49)), some (vi (((x : Nat) : Int))), some (vi (((sd : Nat) : Int))), some (vi (((a + 0 : Nat) : Int))), some (vi (((z + 1 : Nat) : Int)))] [] (S nw nx g, 78 + gn, c_1) B0 post) ∧ (((gWk P z x sd) = true) → SW G (j + 3) mX9_weakMany 18 [some (vr (49)), some (vi (((x : Nat) : Int))), some (vi (((sd : Nat) : Int))), some (vi (((a + 1 : Nat) : Int))), some (vi (((z + 1 : Nat) : Int)))] [] (S nw nx g, 78 + gn, c_1) B0 post))))) :
    SW G (j + 3) mX9_weakMany 18 [some (vr (49)), some (vi (((x : Nat) : Int))), some (vi (((sd : Nat) : Int))), some (vi (((a : Nat) : Int))), some (vi (((z : Nat) : Int)))] [] (S nw nx g, 78 + gn, c) B0 post := by
  refine sw_iload (dX9_weakMany.at 12 rfl) rfl ?_
  refine sw_aload_n (dX9_weakMany.at 13 rfl) rfl rfl ?_
  refine sw_getIE (w := ((gN P : Nat) : Int)) (dX9_weakMany.at 14 rfl) fp_X9_196 (S_lt 49 (by decide)) (S_49 nw nx g) rfl hM.1.2.1 ?_
  refine sw_icmpN_ge z (gN P) (tgt := 52) (dX9_weakMany.at 15 rfl) (by decide) hv.1 hv.2.1 (fun q => ?_) (fun q => ?_)
  · replace hv := hv.2.2.1 q
    refine sw_iload_n (dX9_weakMany.at 30 rfl) rfl rfl ?_
    exact sw_iret (dX9_weakMany.at 31 rfl) rfl (Nat.le_refl _) (Nat.le_refl _) hv
  · replace hv := hv.2.2.2 q
    refine sw_iload_n (dX9_weakMany.at 16 rfl) rfl rfl ?_
    refine sw_aload_n (dX9_weakMany.at 17 rfl) rfl rfl ?_
    refine sw_iload (dX9_weakMany.at 18 rfl) rfl ?_
    refine sw_iload_n (dX9_weakMany.at 19 rfl) rfl rfl ?_
    refine sw_iload_n (dX9_weakMany.at 20 rfl) rfl rfl ?_
    refine sw_callV (B' := B0) (As := [vi (((z : Nat) : Int)), vi (((x : Nat) : Int)), vi (((sd : Nat) : Int))]) (mc := 0) (ms := 0) (dX9_weakMany.at 21 rfl) lk_X9_378 (S_lt 49 (by decide)) (S_49 nw nx g) rfl rfl (Nat.le_of_ble_eq_true rfl) rfl (Nat.le_refl _) (Nat.le_refl _) ?_
    refine c_X9_isWeak (v := z) (w := x) (sd := sd) (j := j + 0) hM hV hC hv.1 hv.2.1 hv.2.2.1 (fun c_1 h_1 => ?_)
    replace hv := hv.2.2.2 c_1 h_1
    refine sw_if_eq (tgt := 43) (dX9_weakMany.at 22 rfl) (by decide) (bz_rng _) (fun q => ?_) (fun q => ?_)
    · replace hv := hv.1 (bz_0 q)
      refine sw_iconst (dX9_weakMany.at 25 rfl) ?_
      refine sw_iadd (dX9_weakMany.at 26 rfl) ?_
      refine sw_topI (y := ((a + 0 : Nat) : Int)) (by first | rfl | (congr 1)) ?_
      refine sw_istore_n (lo' := [some (vr (49)), some (vi (((x : Nat) : Int))), some (vi (((sd : Nat) : Int))), some (vi (((a + 0 : Nat) : Int))), some (vi (((z : Nat) : Int)))]) (dX9_weakMany.at 27 rfl) rfl (by decide) rfl ?_
      refine sw_iinc (lo' := [some (vr (49)), some (vi (((x : Nat) : Int))), some (vi (((sd : Nat) : Int))), some (vi (((a + 0 : Nat) : Int))), some (vi (((z + 1 : Nat) : Int)))]) (dX9_weakMany.at 28 rfl) rfl (by decide) rfl ?_
      refine sw_goto (tgt := 18) (dX9_weakMany.at 29 rfl) (by decide) ?_
      exact hv
    · replace hv := hv.2 (bz_n0 q)
      refine sw_iconst (dX9_weakMany.at 23 rfl) ?_
      refine sw_goto (tgt := 44) (dX9_weakMany.at 24 rfl) (by decide) ?_
      refine sw_iadd (dX9_weakMany.at 26 rfl) ?_
      refine sw_topI (y := ((a + 1 : Nat) : Int)) (by first | rfl | (congr 1)) ?_
      refine sw_istore_n (lo' := [some (vr (49)), some (vi (((x : Nat) : Int))), some (vi (((sd : Nat) : Int))), some (vi (((a + 1 : Nat) : Int))), some (vi (((z : Nat) : Int)))]) (dX9_weakMany.at 27 rfl) rfl (by decide) rfl ?_
      refine sw_iinc (lo' := [some (vr (49)), some (vi (((x : Nat) : Int))), some (vi (((sd : Nat) : Int))), some (vi (((a + 1 : Nat) : Int))), some (vi (((z + 1 : Nat) : Int)))]) (dX9_weakMany.at 28 rfl) rfl (by decide) rfl ?_
      refine sw_goto (tgt := 18) (dX9_weakMany.at 29 rfl) (by decide) ?_
      exact hv

set_option maxHeartbeats 4000000 in
theorem lp_X9_weakMany_18 {G : GG} {j nw nx gn : Nat} {g : Nat → Sh} {c : Nat → Nat → Int} {post : Option AV → AM → Prop} {P : GD} {x : Nat} {sd : Nat} (hM : ML c P) (hV : GV P) (hC : GC P) (hx0 : x < gN P) (hsd : sd < 2) : ∀ (k : Nat) (z : Nat) (a : Nat) (d : Nat → Nat → Int), z + k = gN P → SC c d → (∀ c2 : Nat → Nat → Int, SC c c2 → post (some (vi (((a + cntD (pWm P x sd) k z : Nat) : Int)))) (S nw nx g, 78 + gn, c2)) → SW G (j + 3) mX9_weakMany 18 [some (vr (49)), some (vi (((x : Nat) : Int))), some (vi (((sd : Nat) : Int))), some (vi (((a : Nat) : Int))), some (vi (((z : Nat) : Int)))] [] (S nw nx g, 78 + gn, d) B0 post := by
  intro k
  induction k with
  | zero =>
    intro z a d hrel  hd K
    have h60 := GV_N hV
    simp only [cntD, pWm] at K
    refine g_X9_weakMany_18 (c := d) (ML_SC hM hd) hV hC ?_
    refine ⟨?_, ?_, ⟨fun q => ?_, fun q => ⟨?_, ?_, ?_, fun c_1 h_1 => ⟨fun q => ?_, fun q => ?_⟩⟩⟩⟩
    all_goals first | omega | (exfalso; omega) | exact K _ (by first | exact SC_rf | assumption | (refine SC_tr ?_ (by assumption); first | assumption | (refine SC_tr ?_ (by assumption); first | assumption | (refine SC_tr ?_ (by assumption); assumption)))) | exact ih _ _ _ (by omega)  (by first | exact SC_rf | assumption | (refine SC_tr ?_ (by assumption); first | assumption | (refine SC_tr ?_ (by assumption); first | assumption | (refine SC_tr ?_ (by assumption); assumption)))) K | (simp only [*, if_true, if_false, ite_true, ite_false, Bool.false_eq_true, and_true, true_and, and_false, false_and, and_self, or_true, true_or, or_false, false_or, Bool.and_true, Bool.and_false, Bool.true_and, Bool.false_and, decide_true, decide_false, eq_self, not_true_eq_false, not_false_eq_true, ne_eq, reduceCtorEq, Nat.zero_add, Nat.add_zero, Nat.or_zero, ← Nat.add_assoc] at K; first | exact K _ (by first | exact SC_rf | assumption | (refine SC_tr ?_ (by assumption); first | assumption | (refine SC_tr ?_ (by assumption); first | assumption | (refine SC_tr ?_ (by assumption); assumption)))) | exact ih _ _ _ (by omega)  (by first | exact SC_rf | assumption | (refine SC_tr ?_ (by assumption); first | assumption | (refine SC_tr ?_ (by assumption); first | assumption | (refine SC_tr ?_ (by assumption); assumption)))) K)
  | succ k ih =>
    intro z a d hrel  hd K
    have h60 := GV_N hV
    simp only [cntD, pWm] at K
    refine g_X9_weakMany_18 (c := d) (ML_SC hM hd) hV hC ?_
    refine ⟨?_, ?_, ⟨fun q => ?_, fun q => ⟨?_, ?_, ?_, fun c_1 h_1 => ⟨fun q => ?_, fun q => ?_⟩⟩⟩⟩
    all_goals first | omega | assumption | (exfalso; omega) | (simp only [*, if_true, if_false, ite_true, ite_false, Bool.false_eq_true, and_true, true_and, and_false, false_and, and_self, or_true, true_or, or_false, false_or, Bool.and_true, Bool.and_false, Bool.true_and, Bool.false_and, decide_true, decide_false, eq_self, not_true_eq_false, not_false_eq_true, ne_eq, reduceCtorEq, Nat.zero_add, Nat.add_zero, Nat.or_zero, ← Nat.add_assoc] at K; first | exact K _ (by first | exact SC_rf | assumption | (refine SC_tr ?_ (by assumption); first | assumption | (refine SC_tr ?_ (by assumption); first | assumption | (refine SC_tr ?_ (by assumption); assumption)))) | exact ih _ _ _ (by omega)  (by first | exact SC_rf | assumption | (refine SC_tr ?_ (by assumption); first | assumption | (refine SC_tr ?_ (by assumption); first | assumption | (refine SC_tr ?_ (by assumption); assumption)))) K) | exact K _ (by first | exact SC_rf | assumption | (refine SC_tr ?_ (by assumption); first | assumption | (refine SC_tr ?_ (by assumption); first | assumption | (refine SC_tr ?_ (by assumption); assumption)))) | exact ih _ _ _ (by omega)  (by first | exact SC_rf | assumption | (refine SC_tr ?_ (by assumption); first | assumption | (refine SC_tr ?_ (by assumption); first | assumption | (refine SC_tr ?_ (by assumption); assumption)))) K

set_option maxHeartbeats 2000000 in
set_option maxRecDepth 20000 in
theorem g_X9_weakMany_0n {G : GG} {j nw nx gn : Nat} {g : Nat → Sh} {c : Nat → Nat → Int} {post : Option AV → AM → Prop} {x : Nat} {sd : Nat} {P : GD} (hM : ML c P) (hV : GV P) (hC : GC P)  (hv : (-2147483648 ≤ ((x : Nat) : Int) ∧ ((x : Nat) : Int) < 2147483648) ∧ (-2147483648 ≤ ((x : Nat) : Int) ∧ ((x : Nat) : Int) < 2147483648) ∧ (-2147483648 ≤ ((sd : Nat) : Int) ∧ ((sd : Nat) : Int) < 2147483648) ∧ ((((decide (((0 ≤ ((x : Nat) : Int) ∧ ((x : Nat) : Int) < (gN P : Int)) ∧ 0 ≤ ((x : Nat) : Int) ∧ ((x : Nat) : Int) < (gN P : Int)) ∧ 0 ≤ ((sd : Nat) : Int) ∧ ((sd : Nat) : Int) < 2)) = true) → SW G (j + 3) mX9_weakMany 18 [some (vr (49)), some (vi (((x : Nat) : Int))), some (vi (((sd : Nat) : Int))), some (vi (0)), some (vi (0))] [] (S nw nx g, 78 + gn, c) B0 post) ∧ (((decide (((0 ≤ ((x : Nat) : Int) ∧ ((x : Nat) : Int) < (gN P : Int)) ∧ 0 ≤ ((x : Nat) : Int) ∧ ((x : Nat) : Int) < (gN P : Int)) ∧ 0 ≤ ((sd : Nat) : Int) ∧ ((sd : Nat) : Int) < 2)) = false) → post (some (vi ((-2)))) (S nw nx g, 78 + gn, c)))) :
    SW G (j + 3) mX9_weakMany 0 [some (vr (49)), some (vi (((x : Nat) : Int))), some (vi (((sd : Nat) : Int))), none, none] [] (S nw nx g, 78 + gn, c) B0 post := by
  refine sw_aload_n (dX9_weakMany.at 0 rfl) rfl rfl ?_
  refine sw_iload_n (dX9_weakMany.at 1 rfl) rfl rfl ?_
  refine sw_iload_n (dX9_weakMany.at 2 rfl) rfl rfl ?_
  refine sw_iload_n (dX9_weakMany.at 3 rfl) rfl rfl ?_
  refine sw_callV (B' := B0) (As := [vi (((x : Nat) : Int)), vi (((x : Nat) : Int)), vi (((sd : Nat) : Int))]) (mc := 0) (ms := 0) (dX9_weakMany.at 4 rfl) lk_X9_375 (S_lt 49 (by decide)) (S_49 nw nx g) rfl rfl (Nat.le_of_ble_eq_true rfl) rfl (Nat.le_refl _) (Nat.le_refl _) ?_
  refine c_X9_isSided (x := ((x : Nat) : Int)) (y := ((x : Nat) : Int)) (z := ((sd : Nat) : Int)) (j := j + 0) hM hV hv.1 hv.2.1 hv.2.2.1 ?_
  replace hv := hv.2.2.2
  refine sw_if_ne (tgt := 13) (dX9_weakMany.at 5 rfl) (by decide) (bz_rng _) (fun q => ?_) (fun q => ?_)
  · replace hv := hv.1 (bz_1 q)
    refine sw_iconst (dX9_weakMany.at 8 rfl) ?_
    refine sw_istore_n (lo' := [some (vr (49)), some (vi (((x : Nat) : Int))), some (vi (((sd : Nat) : Int))), some (vi (0)), none]) (dX9_weakMany.at 9 rfl) rfl (by decide) rfl ?_
    refine sw_iconst (dX9_weakMany.at 10 rfl) ?_
    refine sw_istore (lo' := [some (vr (49)), some (vi (((x : Nat) : Int))), some (vi (((sd : Nat) : Int))), some (vi (0)), some (vi (0))]) (dX9_weakMany.at 11 rfl) (by decide) rfl ?_
    exact hv
  · replace hv := hv.2 (bz_n1 q)
    refine sw_bipush (dX9_weakMany.at 6 rfl) (by decide) ?_
    exact sw_iret (dX9_weakMany.at 7 rfl) rfl (Nat.le_refl _) (Nat.le_refl _) hv

set_option maxHeartbeats 2000000 in
set_option maxRecDepth 20000 in
theorem g_X9_weakMany_0 {G : GG} {j nw nx gn : Nat} {g : Nat → Sh} {c : Nat → Nat → Int} {post : Option AV → AM → Prop} {x : Int} {sd : Int} {P : GD} (hM : ML c P) (hV : GV P) (hC : GC P)  (hv : (-2147483648 ≤ x ∧ x < 2147483648) ∧ (-2147483648 ≤ x ∧ x < 2147483648) ∧ (-2147483648 ≤ sd ∧ sd < 2147483648) ∧ ((((decide (((0 ≤ x ∧ x < (gN P : Int)) ∧ 0 ≤ x ∧ x < (gN P : Int)) ∧ 0 ≤ sd ∧ sd < 2)) = true) → SW G (j + 3) mX9_weakMany 18 [some (vr (49)), some (vi (x)), some (vi (sd)), some (vi (0)), some (vi (0))] [] (S nw nx g, 78 + gn, c) B0 post) ∧ (((decide (((0 ≤ x ∧ x < (gN P : Int)) ∧ 0 ≤ x ∧ x < (gN P : Int)) ∧ 0 ≤ sd ∧ sd < 2)) = false) → post (some (vi ((-2)))) (S nw nx g, 78 + gn, c)))) :
    SW G (j + 3) mX9_weakMany 0 [some (vr (49)), some (vi (x)), some (vi (sd)), none, none] [] (S nw nx g, 78 + gn, c) B0 post := by
  refine sw_aload_n (dX9_weakMany.at 0 rfl) rfl rfl ?_
  refine sw_iload_n (dX9_weakMany.at 1 rfl) rfl rfl ?_
  refine sw_iload_n (dX9_weakMany.at 2 rfl) rfl rfl ?_
  refine sw_iload_n (dX9_weakMany.at 3 rfl) rfl rfl ?_
  refine sw_callV (B' := B0) (As := [vi (x), vi (x), vi (sd)]) (mc := 0) (ms := 0) (dX9_weakMany.at 4 rfl) lk_X9_375 (S_lt 49 (by decide)) (S_49 nw nx g) rfl rfl (Nat.le_of_ble_eq_true rfl) rfl (Nat.le_refl _) (Nat.le_refl _) ?_
  refine c_X9_isSided (x := x) (y := x) (z := sd) (j := j + 0) hM hV hv.1 hv.2.1 hv.2.2.1 ?_
  replace hv := hv.2.2.2
  refine sw_if_ne (tgt := 13) (dX9_weakMany.at 5 rfl) (by decide) (bz_rng _) (fun q => ?_) (fun q => ?_)
  · replace hv := hv.1 (bz_1 q)
    refine sw_iconst (dX9_weakMany.at 8 rfl) ?_
    refine sw_istore_n (lo' := [some (vr (49)), some (vi (x)), some (vi (sd)), some (vi (0)), none]) (dX9_weakMany.at 9 rfl) rfl (by decide) rfl ?_
    refine sw_iconst (dX9_weakMany.at 10 rfl) ?_
    refine sw_istore (lo' := [some (vr (49)), some (vi (x)), some (vi (sd)), some (vi (0)), some (vi (0))]) (dX9_weakMany.at 11 rfl) (by decide) rfl ?_
    exact hv
  · replace hv := hv.2 (bz_n1 q)
    refine sw_bipush (dX9_weakMany.at 6 rfl) (by decide) ?_
    exact sw_iret (dX9_weakMany.at 7 rfl) rfl (Nat.le_refl _) (Nat.le_refl _) hv

set_option maxHeartbeats 4000000 in
theorem c_X9_weakMany {G : GG} {j nw nx gn : Nat} {g : Nat → Sh} {c : Nat → Nat → Int} {post : Option AV → AM → Prop} {P : GD} {x sd : Int} (hM : ML c P) (hV : GV P) (hC : GC P) (p1 : -2147483648 ≤ x ∧ x < 2147483648) (p2 : -2147483648 ≤ sd ∧ sd < 2147483648) (K : ∀ c2 : Nat → Nat → Int, SC c c2 → post (some (vi (q_weakMany P x sd))) (S nw nx g, 78 + gn, c2)) : SM G (j + 4) mX9_weakMany [vr (49), vi (x), vi (sd)] (S nw nx g, 78 + gn, c) 0 0 post := by
  refine sm_of wX9_weakMany rfl (Nat.le_of_ble_eq_true rfl) ?_
  have hN60 := GV_N hV
  have hR5 := GV_R hV
  by_cases hv : 0 ≤ x ∧ x < (gN P : Int) ∧ 0 ≤ sd ∧ sd < 2
  · obtain ⟨x, rfl⟩ : ∃ n : Nat, x = (n : Int) := ⟨x.toNat, by omega⟩
    obtain ⟨sd, rfl⟩ : ∃ n : Nat, sd = (n : Int) := ⟨sd.toNat, by omega⟩
    have e : q_weakMany P ((x : Nat) : Int) ((sd : Nat) : Int) = ((cntU (pWm P x sd) (gN P) : Nat) : Int) := by
      rw [q_weakMany, if_pos hv]
      simp only [Int.toNat_natCast]
    rw [e] at K
    have K1 : ∀ (z : Int) (c2 : Nat → Nat → Int), (SC c c2) → z = (((cntU (pWm P x sd) (gN P) : Nat) : Int)) → post (some (vi z)) (S nw nx g, 78 + gn, c2) := fun z c2 h e9 => e9 ▸ K c2 h
    have hx : x < gN P := by omega
    have fx := hV.2.2.1 x hx
    refine g_X9_weakMany_0n hM hV hC ?_
    refine ⟨?_, ?_, ?_, ⟨fun q => ?_, fun q => ?_⟩⟩
    all_goals first | omega | assumption | (exfalso; simp only [decide_eq_true_eq, decide_eq_false_iff_not] at *; omega) | exact lp_X9_weakMany_18 hM hV hC hx (by omega) (gN P) 0 0 c (by omega) SC_rf (by simpa only [cntD_U, Nat.zero_add] using K) | exact K _ (by first | exact SC_rf | assumption | (refine SC_tr ?_ (by assumption); first | assumption | (refine SC_tr ?_ (by assumption); first | assumption | (refine SC_tr ?_ (by assumption); assumption)))) | (refine K1 _ _ (by first | exact SC_rf | assumption | (refine SC_tr ?_ (by assumption); first | assumption | (refine SC_tr ?_ (by assumption); first | assumption | (refine SC_tr ?_ (by assumption); assumption)))) ?_; first | rfl | (simp [bz, *]; done) | (split <;> first | rfl | omega))
  · have e : q_weakMany P x sd = (-2) := by rw [q_weakMany, if_neg hv]
    rw [e] at K
    have K1 : ∀ (z : Int) (c2 : Nat → Nat → Int), (SC c c2) → z = ((-2)) → post (some (vi z)) (S nw nx g, 78 + gn, c2) := fun z c2 h e9 => e9 ▸ K c2 h
    refine g_X9_weakMany_0 hM hV hC ?_
    refine ⟨?_, ?_, ?_, ⟨fun q => ?_, fun q => ?_⟩⟩
    all_goals first | omega | assumption | (exfalso; simp only [decide_eq_true_eq, decide_eq_false_iff_not] at *; omega) | exact K _ (by first | exact SC_rf | assumption | (refine SC_tr ?_ (by assumption); first | assumption | (refine SC_tr ?_ (by assumption); first | assumption | (refine SC_tr ?_ (by assumption); assumption)))) | (refine K1 _ _ (by first | exact SC_rf | assumption | (refine SC_tr ?_ (by assumption); first | assumption | (refine SC_tr ?_ (by assumption); first | assumption | (refine SC_tr ?_ (by assumption); assumption)))) ?_; first | rfl | (simp [bz, *]; done) | (split <;> first | rfl | omega))

set_option maxHeartbeats 2000000 in
set_option maxRecDepth 20000 in
theorem g_X9_inversions_17 {G : GG} {j nw nx gn : Nat} {g : Nat → Sh} {c : Nat → Nat → Int} {post : Option AV → AM → Prop} {x : Nat} {P : GD} {z : Nat} {a : Nat} (hM : ML c P) (hV : GV P) (hC : GC P)  (hv : (z < 2147483648) ∧ (gM P < 2147483648) ∧ (((gM P ≤ z) → post (some (vl (((a : Nat) : Int)))) (S nw nx g, 78 + gn, c)) ∧ ((¬ (gM P ≤ z)) → (z < gM P) ∧ (((gT P z) < gN P) ∧ (x < gN P) ∧ (∀ c_1 : Nat → Nat → Int, SC c c_1 → (gX P (gT P z) x < gN P) ∧ ((x < gN P) ∧ ((gL P (gX P (gT P z) x) < 2147483648) ∧ (gL P x < 2147483648) ∧ (((gL P x ≤ gL P (gX P (gT P z) x)) → SW G (j + 2) mX9_inversions 17 [some (vr (49)), some (vi (((x : Nat) : Int))), some (vl (((a ||| 0 : Nat) : Int))), none, some (vi (((z + 1 : Nat) : Int)))] [] (S nw nx g, 78 + gn, c_1) B0 post) ∧ ((¬ (gL P x ≤ gL P (gX P (gT P z) x))) → (z < 64) ∧ (SW G (j + 2) mX9_inversions 17 [some (vr (49)), some (vi (((x : Nat) : Int))), some (vl (((a ||| (1 * 2 ^ z) : Nat) : Int))), none, some (vi (((z + 1 : Nat) : Int)))] [] (S nw nx g, 78 + gn, c_1) B0 post)))))))))) :
    SW G (j + 2) mX9_inversions 17 [some (vr (49)), some (vi (((x : Nat) : Int))), some (vl (((a : Nat) : Int))), none, some (vi (((z : Nat) : Int)))] [] (S nw nx g, 78 + gn, c) B0 post := by
  refine sw_iload (dX9_inversions.at 10 rfl) rfl ?_
  refine sw_aload_n (dX9_inversions.at 11 rfl) rfl rfl ?_
  refine sw_getIE (w := ((gM P : Nat) : Int)) (dX9_inversions.at 12 rfl) fp_X9_215 (S_lt 49 (by decide)) (S_49 nw nx g) rfl hM.1.2.2.1 ?_
  refine sw_icmpN_ge z (gM P) (tgt := 69) (dX9_inversions.at 13 rfl) (by decide) hv.1 hv.2.1 (fun q => ?_) (fun q => ?_)
  · replace hv := hv.2.2.1 q
    refine sw_lload_n (dX9_inversions.at 39 rfl) rfl rfl ?_
    exact sw_lret (dX9_inversions.at 40 rfl) rfl (Nat.le_refl _) (Nat.le_refl _) hv
  · replace hv := hv.2.2.2 q
    refine sw_lload_n (dX9_inversions.at 14 rfl) rfl rfl ?_
    refine sw_aload_n (dX9_inversions.at 15 rfl) rfl rfl ?_
    refine sw_getR (dX9_inversions.at 16 rfl) fp_X9_32 (S_lt 49 (by decide)) (S_49 nw nx g) rfl rfl ?_
    refine sw_aload_n (dX9_inversions.at 17 rfl) rfl rfl ?_
    refine sw_aload_n (dX9_inversions.at 18 rfl) rfl rfl ?_
    refine sw_getR (dX9_inversions.at 19 rfl) fp_X9_44 (S_lt 49 (by decide)) (S_49 nw nx g) rfl rfl ?_
    refine sw_iload (dX9_inversions.at 20 rfl) rfl ?_
    refine sw_ialdN z (w := ((gT P z : Nat) : Int)) (dX9_inversions.at 21 rfl) (S_lt 60 (by decide)) (S_60 nw nx g) (by decide) (GV_ltM hV hv.1) (ML_T hM hv.1) ?_
    replace hv := hv.2
    refine sw_iload_n (dX9_inversions.at 22 rfl) rfl rfl ?_
    refine sw_callV (B' := B0) (As := [vi (((gT P z : Nat) : Int)), vi (((x : Nat) : Int))]) (mc := 0) (ms := 0) (dX9_inversions.at 23 rfl) lk_X9_237 (S_lt 49 (by decide)) (S_49 nw nx g) rfl rfl (Nat.le_of_ble_eq_true rfl) rfl (Nat.le_refl _) (Nat.le_refl _) ?_
    refine c_X9_product (x := (gT P z)) (y := x) (j := j + 0) hM hV hC hv.1 hv.2.1 (fun c_1 h_1 => ?_)
    replace hv := hv.2.2 c_1 h_1
    refine sw_ialdN (gX P (gT P z) x) (w := ((gL P (gX P (gT P z) x) : Nat) : Int)) (dX9_inversions.at 24 rfl) (S_lt 56 (by decide)) (S_56 nw nx g) (by decide) (GV_lt hV hv.1) (ML_L (ML_SC hM (SC_tr SC_rf h_1)) hv.1) ?_
    replace hv := hv.2
    refine sw_aload_n (dX9_inversions.at 25 rfl) rfl rfl ?_
    refine sw_getR (dX9_inversions.at 26 rfl) fp_X9_32 (S_lt 49 (by decide)) (S_49 nw nx g) rfl rfl ?_
    refine sw_iload_n (dX9_inversions.at 27 rfl) rfl rfl ?_
    refine sw_ialdN x (w := ((gL P x : Nat) : Int)) (dX9_inversions.at 28 rfl) (S_lt 56 (by decide)) (S_56 nw nx g) (by decide) (GV_lt hV hv.1) (ML_L (ML_SC hM (SC_tr SC_rf h_1)) hv.1) ?_
    replace hv := hv.2
    refine sw_icmpN_ge (gL P (gX P (gT P z) x)) (gL P x) (tgt := 60) (dX9_inversions.at 29 rfl) (by decide) hv.1 hv.2.1 (fun q => ?_) (fun q => ?_)
    · replace hv := hv.2.2.1 q
      refine sw_lconst (z := 0) (dX9_inversions.at 34 rfl) (by decide) ?_
      refine sw_lorN a 0 (dX9_inversions.at 35 rfl) ?_
      refine sw_lstore_n (lo' := [some (vr (49)), some (vi (((x : Nat) : Int))), some (vl (((a ||| 0 : Nat) : Int))), none, some (vi (((z : Nat) : Int)))]) (dX9_inversions.at 36 rfl) rfl (by decide) rfl ?_
      refine sw_iinc (lo' := [some (vr (49)), some (vi (((x : Nat) : Int))), some (vl (((a ||| 0 : Nat) : Int))), none, some (vi (((z + 1 : Nat) : Int)))]) (dX9_inversions.at 37 rfl) rfl (by decide) rfl ?_
      refine sw_goto (tgt := 17) (dX9_inversions.at 38 rfl) (by decide) ?_
      exact hv
    · replace hv := hv.2.2.2 q
      refine sw_lconst (z := 1) (dX9_inversions.at 30 rfl) (by decide) ?_
      refine sw_iload (dX9_inversions.at 31 rfl) rfl ?_
      refine sw_lshlN 1 z (dX9_inversions.at 32 rfl) hv.1 ?_
      replace hv := hv.2
      refine sw_goto (tgt := 61) (dX9_inversions.at 33 rfl) (by decide) ?_
      refine sw_lorN a (1 * 2 ^ z) (dX9_inversions.at 35 rfl) ?_
      refine sw_lstore_n (lo' := [some (vr (49)), some (vi (((x : Nat) : Int))), some (vl (((a ||| (1 * 2 ^ z) : Nat) : Int))), none, some (vi (((z : Nat) : Int)))]) (dX9_inversions.at 36 rfl) rfl (by decide) rfl ?_
      refine sw_iinc (lo' := [some (vr (49)), some (vi (((x : Nat) : Int))), some (vl (((a ||| (1 * 2 ^ z) : Nat) : Int))), none, some (vi (((z + 1 : Nat) : Int)))]) (dX9_inversions.at 37 rfl) rfl (by decide) rfl ?_
      refine sw_goto (tgt := 17) (dX9_inversions.at 38 rfl) (by decide) ?_
      exact hv

set_option maxHeartbeats 4000000 in
theorem lp_X9_inversions_17 {G : GG} {j nw nx gn : Nat} {g : Nat → Sh} {c : Nat → Nat → Int} {post : Option AV → AM → Prop} {P : GD} {x : Nat} (hM : ML c P) (hV : GV P) (hC : GC P) (hx0 : x < gN P) : ∀ (k : Nat) (z : Nat) (a : Nat) (d : Nat → Nat → Int), z + k = gM P → SC c d → (∀ c2 : Nat → Nat → Int, SC c c2 → post (some (vl (((bitD (pInv P x) k z a : Nat) : Int)))) (S nw nx g, 78 + gn, c2)) → SW G (j + 2) mX9_inversions 17 [some (vr (49)), some (vi (((x : Nat) : Int))), some (vl (((a : Nat) : Int))), none, some (vi (((z : Nat) : Int)))] [] (S nw nx g, 78 + gn, d) B0 post := by
  intro k
  induction k with
  | zero =>
    intro z a d hrel  hd K
    have h60 := GV_N hV
    have hm := hV.1.2.2.1
    have f0 := (hV.2.2.1 x hx0).1
    have f1 := fun h => hV.2.2.2.2.2 z h
    have f2 := fun h => hV.2.2.2.2.1 (gT P z) x (f1 h) hx0
    have f3 := fun h => (hV.2.2.1 _ (f2 h)).1
    simp only [bitD, pInv] at K
    refine g_X9_inversions_17 (c := d) (ML_SC hM hd) hV hC ?_
    refine ⟨?_, ?_, ⟨fun q => ?_, fun q => ⟨?_, ⟨?_, ?_, fun c_1 h_1 => ⟨?_, ⟨?_, ⟨?_, ?_, ⟨fun q => ?_, fun q => ⟨?_, ?_⟩⟩⟩⟩⟩⟩⟩⟩⟩
    all_goals first | omega | (exfalso; omega) | exact f1 (by omega) | exact f2 (by omega) | (have := f3 (by omega); omega) | (have h9 : gL P (gX P (gT P z) x) < gL P x := (by omega); simp only [h9, decide_true, if_true] at K; exact ih _ _ _ (by omega) (by first | exact SC_rf | assumption | (refine SC_tr ?_ (by assumption); first | assumption | (refine SC_tr ?_ (by assumption); first | assumption | (refine SC_tr ?_ (by assumption); assumption)))) K) | (have h9 : ¬ (gL P (gX P (gT P z) x) < gL P x) := (by omega); simp only [h9, decide_false, Bool.false_eq_true, if_false] at K; exact ih _ _ _ (by omega) (by first | exact SC_rf | assumption | (refine SC_tr ?_ (by assumption); first | assumption | (refine SC_tr ?_ (by assumption); first | assumption | (refine SC_tr ?_ (by assumption); assumption)))) K) | exact K _ (by first | exact SC_rf | assumption | (refine SC_tr ?_ (by assumption); first | assumption | (refine SC_tr ?_ (by assumption); first | assumption | (refine SC_tr ?_ (by assumption); assumption)))) | exact ih _ _ _ (by omega)  (by first | exact SC_rf | assumption | (refine SC_tr ?_ (by assumption); first | assumption | (refine SC_tr ?_ (by assumption); first | assumption | (refine SC_tr ?_ (by assumption); assumption)))) K | (simp only [*, if_true, if_false, ite_true, ite_false, Bool.false_eq_true, and_true, true_and, and_false, false_and, and_self, or_true, true_or, or_false, false_or, Bool.and_true, Bool.and_false, Bool.true_and, Bool.false_and, decide_true, decide_false, eq_self, not_true_eq_false, not_false_eq_true, ne_eq, reduceCtorEq, Nat.zero_add, Nat.add_zero, Nat.or_zero, ← Nat.add_assoc] at K; first | exact K _ (by first | exact SC_rf | assumption | (refine SC_tr ?_ (by assumption); first | assumption | (refine SC_tr ?_ (by assumption); first | assumption | (refine SC_tr ?_ (by assumption); assumption)))) | exact ih _ _ _ (by omega)  (by first | exact SC_rf | assumption | (refine SC_tr ?_ (by assumption); first | assumption | (refine SC_tr ?_ (by assumption); first | assumption | (refine SC_tr ?_ (by assumption); assumption)))) K)
  | succ k ih =>
    intro z a d hrel  hd K
    have h60 := GV_N hV
    have hm := hV.1.2.2.1
    have f0 := (hV.2.2.1 x hx0).1
    have f1 := fun h => hV.2.2.2.2.2 z h
    have f2 := fun h => hV.2.2.2.2.1 (gT P z) x (f1 h) hx0
    have f3 := fun h => (hV.2.2.1 _ (f2 h)).1
    simp only [bitD, pInv] at K
    refine g_X9_inversions_17 (c := d) (ML_SC hM hd) hV hC ?_
    refine ⟨?_, ?_, ⟨fun q => ?_, fun q => ⟨?_, ⟨?_, ?_, fun c_1 h_1 => ⟨?_, ⟨?_, ⟨?_, ?_, ⟨fun q => ?_, fun q => ⟨?_, ?_⟩⟩⟩⟩⟩⟩⟩⟩⟩
    all_goals first | omega | assumption | (exfalso; omega) | exact f1 (by omega) | exact f2 (by omega) | (have := f3 (by omega); omega) | (have h9 : gL P (gX P (gT P z) x) < gL P x := (by omega); simp only [h9, decide_true, if_true] at K; exact ih _ _ _ (by omega) (by first | exact SC_rf | assumption | (refine SC_tr ?_ (by assumption); first | assumption | (refine SC_tr ?_ (by assumption); first | assumption | (refine SC_tr ?_ (by assumption); assumption)))) K) | (have h9 : ¬ (gL P (gX P (gT P z) x) < gL P x) := (by omega); simp only [h9, decide_false, Bool.false_eq_true, if_false] at K; exact ih _ _ _ (by omega) (by first | exact SC_rf | assumption | (refine SC_tr ?_ (by assumption); first | assumption | (refine SC_tr ?_ (by assumption); first | assumption | (refine SC_tr ?_ (by assumption); assumption)))) K) | (simp only [*, if_true, if_false, ite_true, ite_false, Bool.false_eq_true, and_true, true_and, and_false, false_and, and_self, or_true, true_or, or_false, false_or, Bool.and_true, Bool.and_false, Bool.true_and, Bool.false_and, decide_true, decide_false, eq_self, not_true_eq_false, not_false_eq_true, ne_eq, reduceCtorEq, Nat.zero_add, Nat.add_zero, Nat.or_zero, ← Nat.add_assoc] at K; first | exact K _ (by first | exact SC_rf | assumption | (refine SC_tr ?_ (by assumption); first | assumption | (refine SC_tr ?_ (by assumption); first | assumption | (refine SC_tr ?_ (by assumption); assumption)))) | exact ih _ _ _ (by omega)  (by first | exact SC_rf | assumption | (refine SC_tr ?_ (by assumption); first | assumption | (refine SC_tr ?_ (by assumption); first | assumption | (refine SC_tr ?_ (by assumption); assumption)))) K) | exact K _ (by first | exact SC_rf | assumption | (refine SC_tr ?_ (by assumption); first | assumption | (refine SC_tr ?_ (by assumption); first | assumption | (refine SC_tr ?_ (by assumption); assumption)))) | exact ih _ _ _ (by omega)  (by first | exact SC_rf | assumption | (refine SC_tr ?_ (by assumption); first | assumption | (refine SC_tr ?_ (by assumption); first | assumption | (refine SC_tr ?_ (by assumption); assumption)))) K

set_option maxHeartbeats 2000000 in
set_option maxRecDepth 20000 in
theorem g_X9_inversions_0n {G : GG} {j nw nx gn : Nat} {g : Nat → Sh} {c : Nat → Nat → Int} {post : Option AV → AM → Prop} {x : Nat} {P : GD} (hM : ML c P) (hV : GV P) (hC : GC P)  (hv : (-2147483648 ≤ ((x : Nat) : Int) ∧ ((x : Nat) : Int) < 2147483648) ∧ ((((decide (0 ≤ ((x : Nat) : Int) ∧ ((x : Nat) : Int) < (gN P : Int))) = true) → SW G (j + 2) mX9_inversions 17 [some (vr (49)), some (vi (((x : Nat) : Int))), some (vl (0)), none, some (vi (0))] [] (S nw nx g, 78 + gn, c) B0 post) ∧ (((decide (0 ≤ ((x : Nat) : Int) ∧ ((x : Nat) : Int) < (gN P : Int))) = false) → post (some (vl ((-2)))) (S nw nx g, 78 + gn, c)))) :
    SW G (j + 2) mX9_inversions 0 [some (vr (49)), some (vi (((x : Nat) : Int))), none, none, none] [] (S nw nx g, 78 + gn, c) B0 post := by
  refine sw_aload_n (dX9_inversions.at 0 rfl) rfl rfl ?_
  refine sw_iload_n (dX9_inversions.at 1 rfl) rfl rfl ?_
  refine sw_callV (B' := B0) (As := [vi (((x : Nat) : Int))]) (mc := 0) (ms := 0) (dX9_inversions.at 2 rfl) lk_X9_251 (S_lt 49 (by decide)) (S_49 nw nx g) rfl rfl (Nat.le_of_ble_eq_true rfl) rfl (Nat.le_refl _) (Nat.le_refl _) ?_
  refine c_X9_isElement (x := ((x : Nat) : Int)) (j := j + 0) hM hV hv.1 ?_
  replace hv := hv.2
  refine sw_if_ne (tgt := 12) (dX9_inversions.at 3 rfl) (by decide) (bz_rng _) (fun q => ?_) (fun q => ?_)
  · replace hv := hv.1 (bz_1 q)
    refine sw_lconst (z := 0) (dX9_inversions.at 6 rfl) (by decide) ?_
    refine sw_lstore_n (lo' := [some (vr (49)), some (vi (((x : Nat) : Int))), some (vl (0)), none, none]) (dX9_inversions.at 7 rfl) rfl (by decide) rfl ?_
    refine sw_iconst (dX9_inversions.at 8 rfl) ?_
    refine sw_istore (lo' := [some (vr (49)), some (vi (((x : Nat) : Int))), some (vl (0)), none, some (vi (0))]) (dX9_inversions.at 9 rfl) (by decide) rfl ?_
    exact hv
  · replace hv := hv.2 (bz_n1 q)
    refine sw_ldc2 (z := (-2)) (dX9_inversions.at 4 rfl) kc_X9_259 (by decide) ?_
    exact sw_lret (dX9_inversions.at 5 rfl) rfl (Nat.le_refl _) (Nat.le_refl _) hv

set_option maxHeartbeats 2000000 in
set_option maxRecDepth 20000 in
theorem g_X9_inversions_0 {G : GG} {j nw nx gn : Nat} {g : Nat → Sh} {c : Nat → Nat → Int} {post : Option AV → AM → Prop} {x : Int} {P : GD} (hM : ML c P) (hV : GV P) (hC : GC P)  (hv : (-2147483648 ≤ x ∧ x < 2147483648) ∧ ((((decide (0 ≤ x ∧ x < (gN P : Int))) = true) → SW G (j + 2) mX9_inversions 17 [some (vr (49)), some (vi (x)), some (vl (0)), none, some (vi (0))] [] (S nw nx g, 78 + gn, c) B0 post) ∧ (((decide (0 ≤ x ∧ x < (gN P : Int))) = false) → post (some (vl ((-2)))) (S nw nx g, 78 + gn, c)))) :
    SW G (j + 2) mX9_inversions 0 [some (vr (49)), some (vi (x)), none, none, none] [] (S nw nx g, 78 + gn, c) B0 post := by
  refine sw_aload_n (dX9_inversions.at 0 rfl) rfl rfl ?_
  refine sw_iload_n (dX9_inversions.at 1 rfl) rfl rfl ?_
  refine sw_callV (B' := B0) (As := [vi (x)]) (mc := 0) (ms := 0) (dX9_inversions.at 2 rfl) lk_X9_251 (S_lt 49 (by decide)) (S_49 nw nx g) rfl rfl (Nat.le_of_ble_eq_true rfl) rfl (Nat.le_refl _) (Nat.le_refl _) ?_
  refine c_X9_isElement (x := x) (j := j + 0) hM hV hv.1 ?_
  replace hv := hv.2
  refine sw_if_ne (tgt := 12) (dX9_inversions.at 3 rfl) (by decide) (bz_rng _) (fun q => ?_) (fun q => ?_)
  · replace hv := hv.1 (bz_1 q)
    refine sw_lconst (z := 0) (dX9_inversions.at 6 rfl) (by decide) ?_
    refine sw_lstore_n (lo' := [some (vr (49)), some (vi (x)), some (vl (0)), none, none]) (dX9_inversions.at 7 rfl) rfl (by decide) rfl ?_
    refine sw_iconst (dX9_inversions.at 8 rfl) ?_
    refine sw_istore (lo' := [some (vr (49)), some (vi (x)), some (vl (0)), none, some (vi (0))]) (dX9_inversions.at 9 rfl) (by decide) rfl ?_
    exact hv
  · replace hv := hv.2 (bz_n1 q)
    refine sw_ldc2 (z := (-2)) (dX9_inversions.at 4 rfl) kc_X9_259 (by decide) ?_
    exact sw_lret (dX9_inversions.at 5 rfl) rfl (Nat.le_refl _) (Nat.le_refl _) hv

set_option maxHeartbeats 4000000 in
theorem c_X9_inversions {G : GG} {j nw nx gn : Nat} {g : Nat → Sh} {c : Nat → Nat → Int} {post : Option AV → AM → Prop} {P : GD} {x : Int} (hM : ML c P) (hV : GV P) (hC : GC P) (p1 : -2147483648 ≤ x ∧ x < 2147483648) (K : ∀ c2 : Nat → Nat → Int, SC c c2 → post (some (vl (q_inversions P x))) (S nw nx g, 78 + gn, c2)) : SM G (j + 3) mX9_inversions [vr (49), vi (x)] (S nw nx g, 78 + gn, c) 0 0 post := by
  refine sm_of wX9_inversions rfl (Nat.le_of_ble_eq_true rfl) ?_
  have hN60 := GV_N hV
  have hR5 := GV_R hV
  by_cases hv : 0 ≤ x ∧ x < (gN P : Int)
  · obtain ⟨x, rfl⟩ : ∃ n : Nat, x = (n : Int) := ⟨x.toNat, by omega⟩
    have e : q_inversions P ((x : Nat) : Int) = ((bitsU (pInv P x) (gM P) : Nat) : Int) := by
      rw [q_inversions, if_pos hv]
      simp only [Int.toNat_natCast]
    rw [e] at K
    have K1 : ∀ (z : Int) (c2 : Nat → Nat → Int), (SC c c2) → z = (((bitsU (pInv P x) (gM P) : Nat) : Int)) → post (some (vl z)) (S nw nx g, 78 + gn, c2) := fun z c2 h e9 => e9 ▸ K c2 h
    have hx : x < gN P := by omega
    have fx := hV.2.2.1 x hx
    refine g_X9_inversions_0n hM hV hC ?_
    refine ⟨?_, ⟨fun q => ?_, fun q => ?_⟩⟩
    all_goals first | omega | assumption | (exfalso; simp only [decide_eq_true_eq, decide_eq_false_iff_not] at *; omega) | exact lp_X9_inversions_17 hM hV hC hx (gM P) 0 0 c (by omega) SC_rf (by simpa only [bitD_U, Nat.zero_add] using K) | exact K _ (by first | exact SC_rf | assumption | (refine SC_tr ?_ (by assumption); first | assumption | (refine SC_tr ?_ (by assumption); first | assumption | (refine SC_tr ?_ (by assumption); assumption)))) | (refine K1 _ _ (by first | exact SC_rf | assumption | (refine SC_tr ?_ (by assumption); first | assumption | (refine SC_tr ?_ (by assumption); first | assumption | (refine SC_tr ?_ (by assumption); assumption)))) ?_; first | rfl | (simp [bz, *]; done) | (split <;> first | rfl | omega))
  · have e : q_inversions P x = (-2) := by rw [q_inversions, if_neg hv]
    rw [e] at K
    have K1 : ∀ (z : Int) (c2 : Nat → Nat → Int), (SC c c2) → z = ((-2)) → post (some (vl z)) (S nw nx g, 78 + gn, c2) := fun z c2 h e9 => e9 ▸ K c2 h
    refine g_X9_inversions_0 hM hV hC ?_
    refine ⟨?_, ⟨fun q => ?_, fun q => ?_⟩⟩
    all_goals first | omega | assumption | (exfalso; simp only [decide_eq_true_eq, decide_eq_false_iff_not] at *; omega) | exact K _ (by first | exact SC_rf | assumption | (refine SC_tr ?_ (by assumption); first | assumption | (refine SC_tr ?_ (by assumption); first | assumption | (refine SC_tr ?_ (by assumption); assumption)))) | (refine K1 _ _ (by first | exact SC_rf | assumption | (refine SC_tr ?_ (by assumption); first | assumption | (refine SC_tr ?_ (by assumption); first | assumption | (refine SC_tr ?_ (by assumption); assumption)))) ?_; first | rfl | (simp [bz, *]; done) | (split <;> first | rfl | omega))

def tuD (P : GD) (x : Nat) : Nat → Nat → Nat → Nat
  | 0, _, a => a
  | k + 1, z, a => tuD P x k (z + 1) (a ||| 1 * 2 ^ gX P (gX P (gI P z) x) z)
theorem tuD_add (P : GD) (x : Nat) : ∀ k z, tuD P x k z (gTu P x z) = gTu P x (z + k) := by
  intro k
  induction k with
  | zero => intro z; rfl
  | succ k ih => intro z; rw [tuD, show z + (k + 1) = z + 1 + k by omega, ← ih (z + 1)]; rfl
theorem tuD_U (P : GD) (x n : Nat) : tuD P x n 0 0 = gTu P x n := by
  have := tuD_add P x n 0
  rw [Nat.zero_add] at this
  exact this
set_option maxHeartbeats 2000000 in
set_option maxRecDepth 20000 in
theorem g_X9_turnedBits_5 {G : GG} {j nw nx gn : Nat} {g : Nat → Sh} {c : Nat → Nat → Int} {post : Option AV → AM → Prop} {x : Nat} {P : GD} {z : Nat} {a : Nat} (hM : ML c P) (hV : GV P) (hC : GC P)  (hv : (z < 2147483648) ∧ (gN P < 2147483648) ∧ (((gN P ≤ z) → post (some (vl (((a : Nat) : Int)))) (S nw nx g, 78 + gn, c)) ∧ ((¬ (gN P ≤ z)) → (z < gN P) ∧ (((gI P z) < gN P) ∧ (x < gN P) ∧ (∀ c_1 : Nat → Nat → Int, SC c c_1 → ((gX P (gI P z) x) < gN P) ∧ (z < gN P) ∧ (∀ c_2 : Nat → Nat → Int, SC c_1 c_2 → (gX P (gX P (gI P z) x) z < 64) ∧ (SW G (j + 2) mX9_turnedBits 5 [some (vr (49)), some (vi (((x : Nat) : Int))), some (vl (((a ||| (1 * 2 ^ (gX P (gX P (gI P z) x) z)) : Nat) : Int))), none, some (vi (((z + 1 : Nat) : Int)))] [] (S nw nx g, 78 + gn, c_2) B0 post))))))) :
    SW G (j + 2) mX9_turnedBits 5 [some (vr (49)), some (vi (((x : Nat) : Int))), some (vl (((a : Nat) : Int))), none, some (vi (((z : Nat) : Int)))] [] (S nw nx g, 78 + gn, c) B0 post := by
  refine sw_iload (dX9_turnedBits.at 4 rfl) rfl ?_
  refine sw_aload_n (dX9_turnedBits.at 5 rfl) rfl rfl ?_
  refine sw_getIE (w := ((gN P : Nat) : Int)) (dX9_turnedBits.at 6 rfl) fp_X9_196 (S_lt 49 (by decide)) (S_49 nw nx g) rfl hM.1.2.1 ?_
  refine sw_icmpN_ge z (gN P) (tgt := 43) (dX9_turnedBits.at 7 rfl) (by decide) hv.1 hv.2.1 (fun q => ?_) (fun q => ?_)
  · replace hv := hv.2.2.1 q
    refine sw_lload_n (dX9_turnedBits.at 25 rfl) rfl rfl ?_
    exact sw_lret (dX9_turnedBits.at 26 rfl) rfl (Nat.le_refl _) (Nat.le_refl _) hv
  · replace hv := hv.2.2.2 q
    refine sw_lload_n (dX9_turnedBits.at 8 rfl) rfl rfl ?_
    refine sw_lconst (z := 1) (dX9_turnedBits.at 9 rfl) (by decide) ?_
    refine sw_aload_n (dX9_turnedBits.at 10 rfl) rfl rfl ?_
    refine sw_aload_n (dX9_turnedBits.at 11 rfl) rfl rfl ?_
    refine sw_aload_n (dX9_turnedBits.at 12 rfl) rfl rfl ?_
    refine sw_getR (dX9_turnedBits.at 13 rfl) fp_X9_41 (S_lt 49 (by decide)) (S_49 nw nx g) rfl rfl ?_
    refine sw_iload (dX9_turnedBits.at 14 rfl) rfl ?_
    refine sw_ialdN z (w := ((gI P z : Nat) : Int)) (dX9_turnedBits.at 15 rfl) (S_lt 59 (by decide)) (S_59 nw nx g) (by decide) (GV_lt hV hv.1) (ML_I hM hv.1) ?_
    replace hv := hv.2
    refine sw_iload_n (dX9_turnedBits.at 16 rfl) rfl rfl ?_
    refine sw_callV (B' := B0) (As := [vi (((gI P z : Nat) : Int)), vi (((x : Nat) : Int))]) (mc := 0) (ms := 0) (dX9_turnedBits.at 17 rfl) lk_X9_237 (S_lt 49 (by decide)) (S_49 nw nx g) rfl rfl (Nat.le_of_ble_eq_true rfl) rfl (Nat.le_refl _) (Nat.le_refl _) ?_
    refine c_X9_product (x := (gI P z)) (y := x) (j := j + 0) hM hV hC hv.1 hv.2.1 (fun c_1 h_1 => ?_)
    replace hv := hv.2.2 c_1 h_1
    refine sw_iload (dX9_turnedBits.at 18 rfl) rfl ?_
    refine sw_callV (B' := B0) (As := [vi (((gX P (gI P z) x : Nat) : Int)), vi (((z : Nat) : Int))]) (mc := 0) (ms := 0) (dX9_turnedBits.at 19 rfl) lk_X9_237 (S_lt 49 (by decide)) (S_49 nw nx g) rfl rfl (Nat.le_of_ble_eq_true rfl) rfl (Nat.le_refl _) (Nat.le_refl _) ?_
    refine c_X9_product (x := (gX P (gI P z) x)) (y := z) (j := j + 0) (ML_SC hM (SC_tr SC_rf h_1)) hV hC hv.1 hv.2.1 (fun c_2 h_2 => ?_)
    replace hv := hv.2.2 c_2 h_2
    refine sw_lshlN 1 (gX P (gX P (gI P z) x) z) (dX9_turnedBits.at 20 rfl) hv.1 ?_
    replace hv := hv.2
    refine sw_lorN a (1 * 2 ^ (gX P (gX P (gI P z) x) z)) (dX9_turnedBits.at 21 rfl) ?_
    refine sw_lstore_n (lo' := [some (vr (49)), some (vi (((x : Nat) : Int))), some (vl (((a ||| (1 * 2 ^ (gX P (gX P (gI P z) x) z)) : Nat) : Int))), none, some (vi (((z : Nat) : Int)))]) (dX9_turnedBits.at 22 rfl) rfl (by decide) rfl ?_
    refine sw_iinc (lo' := [some (vr (49)), some (vi (((x : Nat) : Int))), some (vl (((a ||| (1 * 2 ^ (gX P (gX P (gI P z) x) z)) : Nat) : Int))), none, some (vi (((z + 1 : Nat) : Int)))]) (dX9_turnedBits.at 23 rfl) rfl (by decide) rfl ?_
    refine sw_goto (tgt := 5) (dX9_turnedBits.at 24 rfl) (by decide) ?_
    exact hv

set_option maxHeartbeats 4000000 in
theorem lp_X9_turnedBits_5 {G : GG} {j nw nx gn : Nat} {g : Nat → Sh} {c : Nat → Nat → Int} {post : Option AV → AM → Prop} {P : GD} {x : Nat} (hM : ML c P) (hV : GV P) (hC : GC P) (hx : x < gN P) : ∀ (k : Nat) (z : Nat) (a : Nat) (d : Nat → Nat → Int), z + k = gN P → SC c d → (∀ c2 : Nat → Nat → Int, SC c c2 → post (some (vl (((tuD P x k z a : Nat) : Int)))) (S nw nx g, 78 + gn, c2)) → SW G (j + 2) mX9_turnedBits 5 [some (vr (49)), some (vi (((x : Nat) : Int))), some (vl (((a : Nat) : Int))), none, some (vi (((z : Nat) : Int)))] [] (S nw nx g, 78 + gn, d) B0 post := by
  intro k
  induction k with
  | zero =>
    intro z a d hrel  hd K
    have h60 := GV_N hV
    have f1 := fun h => (hV.2.2.1 z h).2.2.2.1
    have f2 := fun h => hV.2.2.2.2.1 _ _ (f1 h) hx
    have f3 := fun h => hV.2.2.2.2.1 _ z (f2 h) h
    simp only [tuD] at K
    refine g_X9_turnedBits_5 (c := d) (ML_SC hM hd) hV hC ?_
    refine ⟨?_, ?_, ⟨fun q => ?_, fun q => ⟨?_, ⟨?_, ?_, fun c_1 h_1 => ⟨?_, ?_, fun c_2 h_2 => ⟨?_, ?_⟩⟩⟩⟩⟩⟩
    all_goals first | omega | (exfalso; omega) | exact f1 (by omega) | exact f2 (by omega) | (have := f3 (by omega); omega) | exact K _ (by first | exact SC_rf | assumption | (refine SC_tr ?_ (by assumption); first | assumption | (refine SC_tr ?_ (by assumption); first | assumption | (refine SC_tr ?_ (by assumption); assumption)))) | exact ih _ _ _ (by omega)  (by first | exact SC_rf | assumption | (refine SC_tr ?_ (by assumption); first | assumption | (refine SC_tr ?_ (by assumption); first | assumption | (refine SC_tr ?_ (by assumption); assumption)))) K | (simp only [*, if_true, if_false, ite_true, ite_false, Bool.false_eq_true, and_true, true_and, and_false, false_and, and_self, or_true, true_or, or_false, false_or, Bool.and_true, Bool.and_false, Bool.true_and, Bool.false_and, decide_true, decide_false, eq_self, not_true_eq_false, not_false_eq_true, ne_eq, reduceCtorEq] at K; first | exact K _ (by first | exact SC_rf | assumption | (refine SC_tr ?_ (by assumption); first | assumption | (refine SC_tr ?_ (by assumption); first | assumption | (refine SC_tr ?_ (by assumption); assumption)))) | exact ih _ _ _ (by omega)  (by first | exact SC_rf | assumption | (refine SC_tr ?_ (by assumption); first | assumption | (refine SC_tr ?_ (by assumption); first | assumption | (refine SC_tr ?_ (by assumption); assumption)))) K)
  | succ k ih =>
    intro z a d hrel  hd K
    have h60 := GV_N hV
    have f1 := fun h => (hV.2.2.1 z h).2.2.2.1
    have f2 := fun h => hV.2.2.2.2.1 _ _ (f1 h) hx
    have f3 := fun h => hV.2.2.2.2.1 _ z (f2 h) h
    simp only [tuD] at K
    refine g_X9_turnedBits_5 (c := d) (ML_SC hM hd) hV hC ?_
    refine ⟨?_, ?_, ⟨fun q => ?_, fun q => ⟨?_, ⟨?_, ?_, fun c_1 h_1 => ⟨?_, ?_, fun c_2 h_2 => ⟨?_, ?_⟩⟩⟩⟩⟩⟩
    all_goals first | omega | assumption | (exfalso; omega) | exact f1 (by omega) | exact f2 (by omega) | (have := f3 (by omega); omega) | (simp only [*, if_true, if_false, ite_true, ite_false, Bool.false_eq_true, and_true, true_and, and_false, false_and, and_self, or_true, true_or, or_false, false_or, Bool.and_true, Bool.and_false, Bool.true_and, Bool.false_and, decide_true, decide_false, eq_self, not_true_eq_false, not_false_eq_true, ne_eq, reduceCtorEq] at K; first | exact K _ (by first | exact SC_rf | assumption | (refine SC_tr ?_ (by assumption); first | assumption | (refine SC_tr ?_ (by assumption); first | assumption | (refine SC_tr ?_ (by assumption); assumption)))) | exact ih _ _ _ (by omega)  (by first | exact SC_rf | assumption | (refine SC_tr ?_ (by assumption); first | assumption | (refine SC_tr ?_ (by assumption); first | assumption | (refine SC_tr ?_ (by assumption); assumption)))) K) | exact K _ (by first | exact SC_rf | assumption | (refine SC_tr ?_ (by assumption); first | assumption | (refine SC_tr ?_ (by assumption); first | assumption | (refine SC_tr ?_ (by assumption); assumption)))) | exact ih _ _ _ (by omega)  (by first | exact SC_rf | assumption | (refine SC_tr ?_ (by assumption); first | assumption | (refine SC_tr ?_ (by assumption); first | assumption | (refine SC_tr ?_ (by assumption); assumption)))) K

set_option maxHeartbeats 2000000 in
set_option maxRecDepth 20000 in
theorem g_X9_turnedBits_0 {G : GG} {j nw nx gn : Nat} {g : Nat → Sh} {c : Nat → Nat → Int} {post : Option AV → AM → Prop} {x : Nat}  (hv : SW G (j + 2) mX9_turnedBits 5 [some (vr (49)), some (vi (((x : Nat) : Int))), some (vl (0)), none, some (vi (0))] [] (S nw nx g, 78 + gn, c) B0 post) :
    SW G (j + 2) mX9_turnedBits 0 [some (vr (49)), some (vi (((x : Nat) : Int))), none, none, none] [] (S nw nx g, 78 + gn, c) B0 post := by
  refine sw_lconst (z := 0) (dX9_turnedBits.at 0 rfl) (by decide) ?_
  refine sw_lstore_n (lo' := [some (vr (49)), some (vi (((x : Nat) : Int))), some (vl (0)), none, none]) (dX9_turnedBits.at 1 rfl) rfl (by decide) rfl ?_
  refine sw_iconst (dX9_turnedBits.at 2 rfl) ?_
  refine sw_istore (lo' := [some (vr (49)), some (vi (((x : Nat) : Int))), some (vl (0)), none, some (vi (0))]) (dX9_turnedBits.at 3 rfl) (by decide) rfl ?_
  exact hv

set_option maxHeartbeats 2000000 in
theorem c_X9_turnedBits {G : GG} {j nw nx gn : Nat} {g : Nat → Sh} {c : Nat → Nat → Int} {post : Option AV → AM → Prop} {P : GD} {x : Nat} (hM : ML c P) (hV : GV P) (hC : GC P) (p1 : x < gN P) (K : ∀ c2 : Nat → Nat → Int, SC c c2 → post (some (vl (((gTu P x (gN P) : Nat) : Int)))) (S nw nx g, 78 + gn, c2)) : SM G (j + 3) mX9_turnedBits [vr (49), vi (((x : Nat) : Int))] (S nw nx g, 78 + gn, c) 0 0 post := by
  refine sm_of wX9_turnedBits rfl (Nat.le_of_ble_eq_true rfl) ?_
  refine g_X9_turnedBits_0  ?_
  exact lp_X9_turnedBits_5 hM hV hC p1 (gN P) 0 0 c (by omega) SC_rf (by rw [tuD_U]; exact K)

set_option maxHeartbeats 2000000 in
set_option maxRecDepth 20000 in
theorem g_X9_leastOf_2 {G : GG} {j nw nx gn : Nat} {g : Nat → Sh} {c : Nat → Nat → Int} {post : Option AV → AM → Prop} {s : Nat} {i : Nat}  (hv : (s < 9223372036854775808) ∧ (i < 64) ∧ ((((s.testBit i) = true) → post (some (vi (((i : Nat) : Int)))) (S nw nx g, 78 + gn, c)) ∧ (((s.testBit i) = false) → SW G (j + 1) mX9_leastOf 2 [some (vl (((s : Nat) : Int))), none, some (vi (((i + 1 : Nat) : Int)))] [] (S nw nx g, 78 + gn, c) B0 post))) :
    SW G (j + 1) mX9_leastOf 2 [some (vl (((s : Nat) : Int))), none, some (vi (((i : Nat) : Int)))] [] (S nw nx g, 78 + gn, c) B0 post := by
  refine sw_lload_n (dX9_leastOf.at 2 rfl) rfl rfl ?_
  refine sw_iload_n (dX9_leastOf.at 3 rfl) rfl rfl ?_
  refine sw_callS (post' := post) (B' := B0) (As := [vl (((s : Nat) : Int)), vi (((i : Nat) : Int))]) (mc := 0) (ms := 0) (dX9_leastOf.at 4 rfl) lk_X9_240 rfl rfl (Nat.le_of_ble_eq_true rfl) rfl (Nat.le_refl _) (Nat.le_refl _) ?_
  refine c_X9_has (s := s) (i := i) (j := j + 0) hv.1 hv.2.1 ?_
  replace hv := hv.2.2
  refine sw_if_ne (tgt := 16) (dX9_leastOf.at 5 rfl) (by decide) (bz_rng _) (fun q => ?_) (fun q => ?_)
  · replace hv := hv.1 (bz_1 q)
    refine sw_iload_n (dX9_leastOf.at 8 rfl) rfl rfl ?_
    exact sw_iret (dX9_leastOf.at 9 rfl) rfl (Nat.le_refl _) (Nat.le_refl _) hv
  · replace hv := hv.2 (bz_n1 q)
    refine sw_iinc (lo' := [some (vl (((s : Nat) : Int))), none, some (vi (((i + 1 : Nat) : Int)))]) (dX9_leastOf.at 6 rfl) rfl (by decide) rfl ?_
    refine sw_goto (tgt := 2) (dX9_leastOf.at 7 rfl) (by decide) ?_
    exact hv

set_option maxHeartbeats 4000000 in
theorem lp_X9_leastOf_2 {G : GG} {j nw nx gn : Nat} {g : Nat → Sh} {c : Nat → Nat → Int} {post : Option AV → AM → Prop} {s : Nat} (hs : s < 9223372036854775808) (hb : ∃ t, t < 64 ∧ s.testBit t = true) : ∀ (k : Nat) (i : Nat), i + k = 64 → (∀ t, t < i → s.testBit t = false) → (post (some (vi (((lsbF s k i : Nat) : Int)))) (S nw nx g, 78 + gn, c)) → SW G (j + 1) mX9_leastOf 2 [some (vl (((s : Nat) : Int))), none, some (vi (((i : Nat) : Int)))] [] (S nw nx g, 78 + gn, c) B0 post := by
  intro k
  induction k with
  | zero =>
    intro i hrel hi K
    obtain ⟨t, ht, hb⟩ := hb
    exact absurd hb (by rw [hi t (by omega)]; decide)
  | succ k ih =>
    intro i hrel hi K
    rw [lsbF] at K
    refine g_X9_leastOf_2 ?_
    refine ⟨?_, ?_, ⟨fun q => ?_, fun q => ?_⟩⟩
    all_goals first | omega | assumption | (rw [if_pos (by assumption)] at K; exact K) | (rw [if_neg (by rw [q]; decide)] at K; exact ih _ (by omega) (fun t ht => (by by_cases e : t = i; (rw [e]; exact q); exact hi t (by omega))) K)

set_option maxHeartbeats 2000000 in
set_option maxRecDepth 20000 in
theorem g_X9_leastOf_0 {G : GG} {j nw nx gn : Nat} {g : Nat → Sh} {c : Nat → Nat → Int} {post : Option AV → AM → Prop} {s : Nat}  (hv : SW G (j + 1) mX9_leastOf 2 [some (vl (((s : Nat) : Int))), none, some (vi (0))] [] (S nw nx g, 78 + gn, c) B0 post) :
    SW G (j + 1) mX9_leastOf 0 [some (vl (((s : Nat) : Int))), none, none] [] (S nw nx g, 78 + gn, c) B0 post := by
  refine sw_iconst (dX9_leastOf.at 0 rfl) ?_
  refine sw_istore_n (lo' := [some (vl (((s : Nat) : Int))), none, some (vi (0))]) (dX9_leastOf.at 1 rfl) rfl (by decide) rfl ?_
  exact hv

set_option maxHeartbeats 2000000 in
theorem c_X9_leastOf {G : GG} {j nw nx gn : Nat} {g : Nat → Sh} {c : Nat → Nat → Int} {post : Option AV → AM → Prop} {s : Nat} (p1 : 0 < s) (p2 : s < 9223372036854775808) (K : post (some (vi (((lsb s : Nat) : Int)))) (S nw nx g, 78 + gn, c)) : SM G (j + 2) mX9_leastOf [vl (((s : Nat) : Int))] (S nw nx g, 78 + gn, c) 0 0 post := by
  refine sm_of wX9_leastOf rfl (Nat.le_of_ble_eq_true rfl) ?_
  refine g_X9_leastOf_0  ?_
  have h := lsb_is p1 (Nat.lt_trans p2 (by decide))
  exact lp_X9_leastOf_2 p2 ⟨lsb s, isL_lt h (Nat.lt_trans p2 (by decide)), h.1⟩ 64 0 (by omega) (fun t ht => absurd ht (Nat.not_lt_zero t)) K

set_option maxHeartbeats 2000000 in
set_option maxRecDepth 20000 in
theorem g_X9_conjugate_0n {G : GG} {j nw nx gn : Nat} {g : Nat → Sh} {c : Nat → Nat → Int} {post : Option AV → AM → Prop} {x : Nat} {P : GD} (hM : ML c P) (hV : GV P) (hC : GC P)  (hv : (-2147483648 ≤ ((x : Nat) : Int) ∧ ((x : Nat) : Int) < 2147483648) ∧ ((((decide (0 ≤ ((x : Nat) : Int) ∧ ((x : Nat) : Int) < (gN P : Int))) = false) → post (some (vi ((-2)))) (S nw nx g, 78 + gn, c)) ∧ (((decide (0 ≤ ((x : Nat) : Int) ∧ ((x : Nat) : Int) < (gN P : Int))) = true) → (x < gN P) ∧ (∀ c_1 : Nat → Nat → Int, SC c c_1 → (0 < (gTu P x (gN P))) ∧ ((gTu P x (gN P)) < 9223372036854775808) ∧ (post (some (vi (((lsb (gTu P x (gN P)) : Nat) : Int)))) (S nw nx g, 78 + gn, c_1)))))) :
    SW G (j + 3) mX9_conjugate 0 [some (vr (49)), some (vi (((x : Nat) : Int)))] [] (S nw nx g, 78 + gn, c) B0 post := by
  refine sw_aload_n (dX9_conjugate.at 0 rfl) rfl rfl ?_
  refine sw_iload_n (dX9_conjugate.at 1 rfl) rfl rfl ?_
  refine sw_callV (B' := B0) (As := [vi (((x : Nat) : Int))]) (mc := 0) (ms := 0) (dX9_conjugate.at 2 rfl) lk_X9_251 (S_lt 49 (by decide)) (S_49 nw nx g) rfl rfl (Nat.le_of_ble_eq_true rfl) rfl (Nat.le_refl _) (Nat.le_refl _) ?_
  refine c_X9_isElement (x := ((x : Nat) : Int)) (j := j + 1) hM hV hv.1 ?_
  replace hv := hv.2
  refine sw_if_eq (tgt := 19) (dX9_conjugate.at 3 rfl) (by decide) (bz_rng _) (fun q => ?_) (fun q => ?_)
  · replace hv := hv.1 (bz_0 q)
    refine sw_bipush (dX9_conjugate.at 9 rfl) (by decide) ?_
    exact sw_iret (dX9_conjugate.at 10 rfl) rfl (Nat.le_refl _) (Nat.le_refl _) hv
  · replace hv := hv.2 (bz_n0 q)
    refine sw_aload_n (dX9_conjugate.at 4 rfl) rfl rfl ?_
    refine sw_iload_n (dX9_conjugate.at 5 rfl) rfl rfl ?_
    refine sw_callV (B' := B0) (As := [vi (((x : Nat) : Int))]) (mc := 0) (ms := 0) (dX9_conjugate.at 6 rfl) lk_X9_386 (S_lt 49 (by decide)) (S_49 nw nx g) rfl rfl (Nat.le_of_ble_eq_true rfl) rfl (Nat.le_refl _) (Nat.le_refl _) ?_
    refine c_X9_turnedBits (x := x) (j := j + 0) hM hV hC hv.1 (fun c_1 h_1 => ?_)
    replace hv := hv.2 c_1 h_1
    refine sw_callS (post' := post) (B' := B0) (As := [vl (((gTu P x (gN P) : Nat) : Int))]) (mc := 0) (ms := 0) (dX9_conjugate.at 7 rfl) lk_X9_353 rfl rfl (Nat.le_of_ble_eq_true rfl) rfl (Nat.le_refl _) (Nat.le_refl _) ?_
    refine c_X9_leastOf (s := (gTu P x (gN P))) (j := j + 1) hv.1 hv.2.1 ?_
    replace hv := hv.2.2
    refine sw_goto (tgt := 21) (dX9_conjugate.at 8 rfl) (by decide) ?_
    exact sw_iret (dX9_conjugate.at 10 rfl) rfl (Nat.le_refl _) (Nat.le_refl _) hv

set_option maxHeartbeats 2000000 in
set_option maxRecDepth 20000 in
theorem g_X9_conjugate_0 {G : GG} {j nw nx gn : Nat} {g : Nat → Sh} {c : Nat → Nat → Int} {post : Option AV → AM → Prop} {x : Int} {P : GD} (hM : ML c P) (hV : GV P) (hC : GC P)  (hv : (-2147483648 ≤ x ∧ x < 2147483648) ∧ ((((decide (0 ≤ x ∧ x < (gN P : Int))) = false) → post (some (vi ((-2)))) (S nw nx g, 78 + gn, c)) ∧ (((decide (0 ≤ x ∧ x < (gN P : Int))) = true) → SW G (j + 3) mX9_conjugate 10 [some (vr (49)), some (vi (x))] [vi (x), vr (49)] (S nw nx g, 78 + gn, c) B0 post))) :
    SW G (j + 3) mX9_conjugate 0 [some (vr (49)), some (vi (x))] [] (S nw nx g, 78 + gn, c) B0 post := by
  refine sw_aload_n (dX9_conjugate.at 0 rfl) rfl rfl ?_
  refine sw_iload_n (dX9_conjugate.at 1 rfl) rfl rfl ?_
  refine sw_callV (B' := B0) (As := [vi (x)]) (mc := 0) (ms := 0) (dX9_conjugate.at 2 rfl) lk_X9_251 (S_lt 49 (by decide)) (S_49 nw nx g) rfl rfl (Nat.le_of_ble_eq_true rfl) rfl (Nat.le_refl _) (Nat.le_refl _) ?_
  refine c_X9_isElement (x := x) (j := j + 1) hM hV hv.1 ?_
  replace hv := hv.2
  refine sw_if_eq (tgt := 19) (dX9_conjugate.at 3 rfl) (by decide) (bz_rng _) (fun q => ?_) (fun q => ?_)
  · replace hv := hv.1 (bz_0 q)
    refine sw_bipush (dX9_conjugate.at 9 rfl) (by decide) ?_
    exact sw_iret (dX9_conjugate.at 10 rfl) rfl (Nat.le_refl _) (Nat.le_refl _) hv
  · replace hv := hv.2 (bz_n0 q)
    refine sw_aload_n (dX9_conjugate.at 4 rfl) rfl rfl ?_
    refine sw_iload_n (dX9_conjugate.at 5 rfl) rfl rfl ?_
    exact hv

set_option maxHeartbeats 4000000 in
theorem c_X9_conjugate {G : GG} {j nw nx gn : Nat} {g : Nat → Sh} {c : Nat → Nat → Int} {post : Option AV → AM → Prop} {P : GD} {x : Int} (hM : ML c P) (hV : GV P) (hC : GC P) (p1 : -2147483648 ≤ x ∧ x < 2147483648) (K : ∀ c2 : Nat → Nat → Int, SC c c2 → post (some (vi (q_conjugate P x))) (S nw nx g, 78 + gn, c2)) : SM G (j + 4) mX9_conjugate [vr (49), vi (x)] (S nw nx g, 78 + gn, c) 0 0 post := by
  refine sm_of wX9_conjugate rfl (Nat.le_of_ble_eq_true rfl) ?_
  have hN60 := GV_N hV
  have hR5 := GV_R hV
  by_cases hv : 0 ≤ x ∧ x < (gN P : Int)
  · obtain ⟨x, rfl⟩ : ∃ n : Nat, x = (n : Int) := ⟨x.toNat, by omega⟩
    have e : q_conjugate P ((x : Nat) : Int) = ((lsb (gTu P x (gN P)) : Nat) : Int) := by
      rw [q_conjugate, if_pos hv]
      simp only [Int.toNat_natCast]
    rw [e] at K
    have K1 : ∀ (z : Int) (c2 : Nat → Nat → Int), (SC c c2) → z = (((lsb (gTu P x (gN P)) : Nat) : Int)) → post (some (vi z)) (S nw nx g, 78 + gn, c2) := fun z c2 h e9 => e9 ▸ K c2 h
    have hx : x < gN P := by omega
    have fx := hV.2.2.1 x hx
    have t1 := gTu_lt hV hx (gN P) (Nat.le_refl _)
    have t2 := gTu_pos (P := P) (x := x) (n := gN P) (by omega)
    have t3 : gTu P x (gN P) < 9223372036854775808 := Nat.lt_trans t1 (by decide)
    refine g_X9_conjugate_0n hM hV hC ?_
    refine ⟨?_, ⟨fun q => ?_, fun q => ⟨?_, fun c_1 h_1 => ⟨?_, ?_, ?_⟩⟩⟩⟩
    all_goals first | omega | assumption | (exfalso; simp only [decide_eq_true_eq, decide_eq_false_iff_not] at *; omega) | exact K _ (by first | exact SC_rf | assumption | (refine SC_tr ?_ (by assumption); first | assumption | (refine SC_tr ?_ (by assumption); first | assumption | (refine SC_tr ?_ (by assumption); assumption)))) | (refine K1 _ _ (by first | exact SC_rf | assumption | (refine SC_tr ?_ (by assumption); first | assumption | (refine SC_tr ?_ (by assumption); first | assumption | (refine SC_tr ?_ (by assumption); assumption)))) ?_; first | rfl | (simp [bz, *]; done) | (split <;> first | rfl | omega))
  · have e : q_conjugate P x = (-2) := by rw [q_conjugate, if_neg hv]
    rw [e] at K
    have K1 : ∀ (z : Int) (c2 : Nat → Nat → Int), (SC c c2) → z = ((-2)) → post (some (vi z)) (S nw nx g, 78 + gn, c2) := fun z c2 h e9 => e9 ▸ K c2 h
    refine g_X9_conjugate_0 hM hV hC ?_
    refine ⟨?_, ⟨fun q => ?_, fun q => ?_⟩⟩
    all_goals first | omega | assumption | (exfalso; simp only [decide_eq_true_eq, decide_eq_false_iff_not] at *; omega) | exact K _ (by first | exact SC_rf | assumption | (refine SC_tr ?_ (by assumption); first | assumption | (refine SC_tr ?_ (by assumption); first | assumption | (refine SC_tr ?_ (by assumption); assumption)))) | (refine K1 _ _ (by first | exact SC_rf | assumption | (refine SC_tr ?_ (by assumption); first | assumption | (refine SC_tr ?_ (by assumption); first | assumption | (refine SC_tr ?_ (by assumption); assumption)))) ?_; first | rfl | (simp [bz, *]; done) | (split <;> first | rfl | omega))

set_option maxHeartbeats 2000000 in
set_option maxRecDepth 20000 in
theorem g_X9_conjugates_0n {G : GG} {j nw nx gn : Nat} {g : Nat → Sh} {c : Nat → Nat → Int} {post : Option AV → AM → Prop} {x : Nat} {P : GD} (hM : ML c P) (hV : GV P) (hC : GC P)  (hv : (-2147483648 ≤ ((x : Nat) : Int) ∧ ((x : Nat) : Int) < 2147483648) ∧ ((((decide (0 ≤ ((x : Nat) : Int) ∧ ((x : Nat) : Int) < (gN P : Int))) = false) → post (some (vi ((-2)))) (S nw nx g, 78 + gn, c)) ∧ (((decide (0 ≤ ((x : Nat) : Int) ∧ ((x : Nat) : Int) < (gN P : Int))) = true) → (x < gN P) ∧ (∀ c_1 : Nat → Nat → Int, SC c c_1 → post (some (vi (bcJ ((gTu P x (gN P) : Nat) : Int)))) (S nw nx g, 78 + gn, c_1))))) :
    SW G (j + 3) mX9_conjugates 0 [some (vr (49)), some (vi (((x : Nat) : Int)))] [] (S nw nx g, 78 + gn, c) B0 post := by
  refine sw_aload_n (dX9_conjugates.at 0 rfl) rfl rfl ?_
  refine sw_iload_n (dX9_conjugates.at 1 rfl) rfl rfl ?_
  refine sw_callV (B' := B0) (As := [vi (((x : Nat) : Int))]) (mc := 0) (ms := 0) (dX9_conjugates.at 2 rfl) lk_X9_251 (S_lt 49 (by decide)) (S_49 nw nx g) rfl rfl (Nat.le_of_ble_eq_true rfl) rfl (Nat.le_refl _) (Nat.le_refl _) ?_
  refine c_X9_isElement (x := ((x : Nat) : Int)) (j := j + 1) hM hV hv.1 ?_
  replace hv := hv.2
  refine sw_if_eq (tgt := 19) (dX9_conjugates.at 3 rfl) (by decide) (bz_rng _) (fun q => ?_) (fun q => ?_)
  · replace hv := hv.1 (bz_0 q)
    refine sw_bipush (dX9_conjugates.at 9 rfl) (by decide) ?_
    exact sw_iret (dX9_conjugates.at 10 rfl) rfl (Nat.le_refl _) (Nat.le_refl _) hv
  · replace hv := hv.2 (bz_n0 q)
    refine sw_aload_n (dX9_conjugates.at 4 rfl) rfl rfl ?_
    refine sw_iload_n (dX9_conjugates.at 5 rfl) rfl rfl ?_
    refine sw_callV (B' := B0) (As := [vi (((x : Nat) : Int))]) (mc := 0) (ms := 0) (dX9_conjugates.at 6 rfl) lk_X9_386 (S_lt 49 (by decide)) (S_49 nw nx g) rfl rfl (Nat.le_of_ble_eq_true rfl) rfl (Nat.le_refl _) (Nat.le_refl _) ?_
    refine c_X9_turnedBits (x := x) (j := j + 0) hM hV hC hv.1 (fun c_1 h_1 => ?_)
    replace hv := hv.2 c_1 h_1
    refine sw_callS (post' := post) (B' := B0) (As := [vl (((gTu P x (gN P) : Nat) : Int))]) (mc := 0) (ms := 0) (dX9_conjugates.at 7 rfl) lk_X9_389 rfl rfl (Nat.le_of_ble_eq_true rfl) rfl (Nat.le_refl _) (Nat.le_refl _) ?_
    refine c_J13_bitCount_95d88 (z := ((gTu P x (gN P) : Nat) : Int)) (j := j + 2)  ?_
    refine sw_goto (tgt := 21) (dX9_conjugates.at 8 rfl) (by decide) ?_
    exact sw_iret (dX9_conjugates.at 10 rfl) rfl (Nat.le_refl _) (Nat.le_refl _) hv

set_option maxHeartbeats 2000000 in
set_option maxRecDepth 20000 in
theorem g_X9_conjugates_0 {G : GG} {j nw nx gn : Nat} {g : Nat → Sh} {c : Nat → Nat → Int} {post : Option AV → AM → Prop} {x : Int} {P : GD} (hM : ML c P) (hV : GV P) (hC : GC P)  (hv : (-2147483648 ≤ x ∧ x < 2147483648) ∧ ((((decide (0 ≤ x ∧ x < (gN P : Int))) = false) → post (some (vi ((-2)))) (S nw nx g, 78 + gn, c)) ∧ (((decide (0 ≤ x ∧ x < (gN P : Int))) = true) → SW G (j + 3) mX9_conjugates 10 [some (vr (49)), some (vi (x))] [vi (x), vr (49)] (S nw nx g, 78 + gn, c) B0 post))) :
    SW G (j + 3) mX9_conjugates 0 [some (vr (49)), some (vi (x))] [] (S nw nx g, 78 + gn, c) B0 post := by
  refine sw_aload_n (dX9_conjugates.at 0 rfl) rfl rfl ?_
  refine sw_iload_n (dX9_conjugates.at 1 rfl) rfl rfl ?_
  refine sw_callV (B' := B0) (As := [vi (x)]) (mc := 0) (ms := 0) (dX9_conjugates.at 2 rfl) lk_X9_251 (S_lt 49 (by decide)) (S_49 nw nx g) rfl rfl (Nat.le_of_ble_eq_true rfl) rfl (Nat.le_refl _) (Nat.le_refl _) ?_
  refine c_X9_isElement (x := x) (j := j + 1) hM hV hv.1 ?_
  replace hv := hv.2
  refine sw_if_eq (tgt := 19) (dX9_conjugates.at 3 rfl) (by decide) (bz_rng _) (fun q => ?_) (fun q => ?_)
  · replace hv := hv.1 (bz_0 q)
    refine sw_bipush (dX9_conjugates.at 9 rfl) (by decide) ?_
    exact sw_iret (dX9_conjugates.at 10 rfl) rfl (Nat.le_refl _) (Nat.le_refl _) hv
  · replace hv := hv.2 (bz_n0 q)
    refine sw_aload_n (dX9_conjugates.at 4 rfl) rfl rfl ?_
    refine sw_iload_n (dX9_conjugates.at 5 rfl) rfl rfl ?_
    exact hv

set_option maxHeartbeats 4000000 in
theorem c_X9_conjugates {G : GG} {j nw nx gn : Nat} {g : Nat → Sh} {c : Nat → Nat → Int} {post : Option AV → AM → Prop} {P : GD} {x : Int} (hM : ML c P) (hV : GV P) (hC : GC P) (p1 : -2147483648 ≤ x ∧ x < 2147483648) (K : ∀ c2 : Nat → Nat → Int, SC c c2 → post (some (vi (q_conjugates P x))) (S nw nx g, 78 + gn, c2)) : SM G (j + 4) mX9_conjugates [vr (49), vi (x)] (S nw nx g, 78 + gn, c) 0 0 post := by
  refine sm_of wX9_conjugates rfl (Nat.le_of_ble_eq_true rfl) ?_
  have hN60 := GV_N hV
  have hR5 := GV_R hV
  by_cases hv : 0 ≤ x ∧ x < (gN P : Int)
  · obtain ⟨x, rfl⟩ : ∃ n : Nat, x = (n : Int) := ⟨x.toNat, by omega⟩
    have e : q_conjugates P ((x : Nat) : Int) = bcJ ((gTu P x (gN P) : Nat) : Int) := by
      rw [q_conjugates, if_pos hv]
      simp only [Int.toNat_natCast]
    rw [e] at K
    have K1 : ∀ (z : Int) (c2 : Nat → Nat → Int), (SC c c2) → z = (bcJ ((gTu P x (gN P) : Nat) : Int)) → post (some (vi z)) (S nw nx g, 78 + gn, c2) := fun z c2 h e9 => e9 ▸ K c2 h
    have hx : x < gN P := by omega
    have fx := hV.2.2.1 x hx
    have t1 := gTu_lt hV hx (gN P) (Nat.le_refl _)
    have t2 := gTu_pos (P := P) (x := x) (n := gN P) (by omega)
    have t3 : gTu P x (gN P) < 9223372036854775808 := Nat.lt_trans t1 (by decide)
    refine g_X9_conjugates_0n hM hV hC ?_
    refine ⟨?_, ⟨fun q => ?_, fun q => ⟨?_, fun c_1 h_1 => ?_⟩⟩⟩
    all_goals first | omega | assumption | (exfalso; simp only [decide_eq_true_eq, decide_eq_false_iff_not] at *; omega) | exact K _ (by first | exact SC_rf | assumption | (refine SC_tr ?_ (by assumption); first | assumption | (refine SC_tr ?_ (by assumption); first | assumption | (refine SC_tr ?_ (by assumption); assumption)))) | (refine K1 _ _ (by first | exact SC_rf | assumption | (refine SC_tr ?_ (by assumption); first | assumption | (refine SC_tr ?_ (by assumption); first | assumption | (refine SC_tr ?_ (by assumption); assumption)))) ?_; first | rfl | (simp [bz, *]; done) | (split <;> first | rfl | omega))
  · have e : q_conjugates P x = (-2) := by rw [q_conjugates, if_neg hv]
    rw [e] at K
    have K1 : ∀ (z : Int) (c2 : Nat → Nat → Int), (SC c c2) → z = ((-2)) → post (some (vi z)) (S nw nx g, 78 + gn, c2) := fun z c2 h e9 => e9 ▸ K c2 h
    refine g_X9_conjugates_0 hM hV hC ?_
    refine ⟨?_, ⟨fun q => ?_, fun q => ?_⟩⟩
    all_goals first | omega | assumption | (exfalso; simp only [decide_eq_true_eq, decide_eq_false_iff_not] at *; omega) | exact K _ (by first | exact SC_rf | assumption | (refine SC_tr ?_ (by assumption); first | assumption | (refine SC_tr ?_ (by assumption); first | assumption | (refine SC_tr ?_ (by assumption); assumption)))) | (refine K1 _ _ (by first | exact SC_rf | assumption | (refine SC_tr ?_ (by assumption); first | assumption | (refine SC_tr ?_ (by assumption); first | assumption | (refine SC_tr ?_ (by assumption); assumption)))) ?_; first | rfl | (simp [bz, *]; done) | (split <;> first | rfl | omega))

