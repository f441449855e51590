set_option maxHeartbeats 2000000 in
set_option maxRecDepth 20000 in
theorem g_X9_length_0n {G : GG} {j nw nx gn : Nat} {g : Nat → Sh} {c : Nat → Nat → Int} {post : Option AV → AM → Prop} {x : Nat} {P : GD} (hM : ML c P) (hV : GV P)  (hv : (-2147483648 ≤ ((x : Nat) : Int) ∧ ((x : Nat) : Int) < 2147483648) ∧ ((((decide (0 ≤ ((x : Nat) : Int) ∧ ((x : Nat) : Int) < (gN P : Int))) = false) → post (some (vi ((-2)))) (S nw nx g, 78 + gn, c)) ∧ (((decide (0 ≤ ((x : Nat) : Int) ∧ ((x : Nat) : Int) < (gN P : Int))) = true) → (x < gN P) ∧ (post (some (vi (((gL P x : Nat) : Int)))) (S nw nx g, 78 + gn, c))))) :
    SW G (j + 2) mX9_length 0 [some (vr (49)), some (vi (((x : Nat) : Int)))] [] (S nw nx g, 78 + gn, c) B0 post := by
  refine sw_aload_n (dX9_length.at 0 rfl) rfl rfl ?_
  refine sw_iload_n (dX9_length.at 1 rfl) rfl rfl ?_
  refine sw_callV (B' := B0) (As := [vi (((x : Nat) : Int))]) (mc := 0) (ms := 0) (dX9_length.at 2 rfl) lk_X9_251 (S_lt 49 (by decide)) (S_49 nw nx g) rfl rfl (Nat.le_of_ble_eq_true rfl) rfl (Nat.le_refl _) (Nat.le_refl _) ?_
  refine c_X9_isElement (x := ((x : Nat) : Int)) (j := j + 0) hM hV hv.1 ?_
  replace hv := hv.2
  refine sw_if_eq (tgt := 17) (dX9_length.at 3 rfl) (by decide) (bz_rng _) (fun q => ?_) (fun q => ?_)
  · replace hv := hv.1 (bz_0 q)
    refine sw_bipush (dX9_length.at 9 rfl) (by decide) ?_
    exact sw_iret (dX9_length.at 10 rfl) rfl (Nat.le_refl _) (Nat.le_refl _) hv
  · replace hv := hv.2 (bz_n0 q)
    refine sw_aload_n (dX9_length.at 4 rfl) rfl rfl ?_
    refine sw_getR (dX9_length.at 5 rfl) fp_X9_32 (S_lt 49 (by decide)) (S_49 nw nx g) rfl rfl ?_
    refine sw_iload_n (dX9_length.at 6 rfl) rfl rfl ?_
    refine sw_ialdN x (w := ((gL P x : Nat) : Int)) (dX9_length.at 7 rfl) (S_lt 56 (by decide)) (S_56 nw nx g) (by decide) (GV_lt hV hv.1) (ML_L hM hv.1) ?_
    replace hv := hv.2
    refine sw_goto (tgt := 19) (dX9_length.at 8 rfl) (by decide) ?_
    exact sw_iret (dX9_length.at 10 rfl) rfl (Nat.le_refl _) (Nat.le_refl _) hv

set_option maxHeartbeats 2000000 in
set_option maxRecDepth 20000 in
theorem g_X9_length_0 {G : GG} {j nw nx gn : Nat} {g : Nat → Sh} {c : Nat → Nat → Int} {post : Option AV → AM → Prop} {x : Int} {P : GD} (hM : ML c P) (hV : GV P)  (hv : (-2147483648 ≤ x ∧ x < 2147483648) ∧ ((((decide (0 ≤ x ∧ x < (gN P : Int))) = false) → post (some (vi ((-2)))) (S nw nx g, 78 + gn, c)) ∧ (((decide (0 ≤ x ∧ x < (gN P : Int))) = true) → SW G (j + 2) mX9_length 13 [some (vr (49)), some (vi (x))] [vi (x), vr (56)] (S nw nx g, 78 + gn, c) B0 post))) :
    SW G (j + 2) mX9_length 0 [some (vr (49)), some (vi (x))] [] (S nw nx g, 78 + gn, c) B0 post := by
  refine sw_aload_n (dX9_length.at 0 rfl) rfl rfl ?_
  refine sw_iload_n (dX9_length.at 1 rfl) rfl rfl ?_
  refine sw_callV (B' := B0) (As := [vi (x)]) (mc := 0) (ms := 0) (dX9_length.at 2 rfl) lk_X9_251 (S_lt 49 (by decide)) (S_49 nw nx g) rfl rfl (Nat.le_of_ble_eq_true rfl) rfl (Nat.le_refl _) (Nat.le_refl _) ?_
  refine c_X9_isElement (x := x) (j := j + 0) hM hV hv.1 ?_
  replace hv := hv.2
  refine sw_if_eq (tgt := 17) (dX9_length.at 3 rfl) (by decide) (bz_rng _) (fun q => ?_) (fun q => ?_)
  · replace hv := hv.1 (bz_0 q)
    refine sw_bipush (dX9_length.at 9 rfl) (by decide) ?_
    exact sw_iret (dX9_length.at 10 rfl) rfl (Nat.le_refl _) (Nat.le_refl _) hv
  · replace hv := hv.2 (bz_n0 q)
    refine sw_aload_n (dX9_length.at 4 rfl) rfl rfl ?_
    refine sw_getR (dX9_length.at 5 rfl) fp_X9_32 (S_lt 49 (by decide)) (S_49 nw nx g) rfl rfl ?_
    refine sw_iload_n (dX9_length.at 6 rfl) rfl rfl ?_
    exact hv

set_option maxHeartbeats 4000000 in
theorem c_X9_length {G : GG} {j nw nx gn : Nat} {g : Nat → Sh} {c : Nat → Nat → Int} {post : Option AV → AM → Prop} {P : GD} {x : Int} (hM : ML c P) (hV : GV P) (p1 : -2147483648 ≤ x ∧ x < 2147483648) (K : ∀ c2 : Nat → Nat → Int, SC c c2 → post (some (vi (q_length P x))) (S nw nx g, 78 + gn, c2)) : SM G (j + 3) mX9_length [vr (49), vi (x)] (S nw nx g, 78 + gn, c) 0 0 post := by
  refine sm_of wX9_length rfl (Nat.le_of_ble_eq_true rfl) ?_
  have hN60 := GV_N hV
  have hR5 := GV_R hV
  by_cases hv : (0 ≤ x ∧ x < (gN P : Int))
  · obtain ⟨x, rfl⟩ : ∃ n : Nat, x = (n : Int) := ⟨x.toNat, by omega⟩
    have e : q_length P ((x : Nat) : Int) = ((gL P x : Nat) : Int) := by
      rw [q_length, if_pos hv]
      simp only [Int.toNat_natCast]
    rw [e] at K
    have K1 : ∀ (z : Int) (c2 : Nat → Nat → Int), (SC c c2) → z = (((gL P x : Nat) : Int)) → post (some (vi z)) (S nw nx g, 78 + gn, c2) := fun z c2 h e9 => e9 ▸ K c2 h
    refine g_X9_length_0n hM hV ?_
    refine ⟨?_, ⟨fun q => ?_, fun q => ⟨?_, ?_⟩⟩⟩
    all_goals first | omega | assumption | (exfalso; simp only [decide_eq_true_eq, decide_eq_false_iff_not] at *; omega) | exact K _ (by first | exact SC_rf | assumption | (refine SC_tr ?_ (by assumption); first | assumption | (refine SC_tr ?_ (by assumption); first | assumption | (refine SC_tr ?_ (by assumption); assumption)))) | (refine K1 _ _ (by first | exact SC_rf | assumption | (refine SC_tr ?_ (by assumption); first | assumption | (refine SC_tr ?_ (by assumption); first | assumption | (refine SC_tr ?_ (by assumption); assumption)))) ?_; first | rfl | (simp [bz, *]; done) | (split <;> first | rfl | omega))
  · have e : q_length P x = (-2) := by rw [q_length, if_neg hv]
    rw [e] at K
    have K1 : ∀ (z : Int) (c2 : Nat → Nat → Int), (SC c c2) → z = ((-2)) → post (some (vi z)) (S nw nx g, 78 + gn, c2) := fun z c2 h e9 => e9 ▸ K c2 h
    refine g_X9_length_0 hM hV ?_
    refine ⟨?_, ⟨fun q => ?_, fun q => ?_⟩⟩
    all_goals first | omega | assumption | (exfalso; simp only [decide_eq_true_eq, decide_eq_false_iff_not] at *; omega) | exact K _ (by first | exact SC_rf | assumption | (refine SC_tr ?_ (by assumption); first | assumption | (refine SC_tr ?_ (by assumption); first | assumption | (refine SC_tr ?_ (by assumption); assumption)))) | (refine K1 _ _ (by first | exact SC_rf | assumption | (refine SC_tr ?_ (by assumption); first | assumption | (refine SC_tr ?_ (by assumption); first | assumption | (refine SC_tr ?_ (by assumption); assumption)))) ?_; first | rfl | (simp [bz, *]; done) | (split <;> first | rfl | omega))

set_option maxHeartbeats 2000000 in
set_option maxRecDepth 20000 in
theorem g_X9_inverse_0n {G : GG} {j nw nx gn : Nat} {g : Nat → Sh} {c : Nat → Nat → Int} {post : Option AV → AM → Prop} {x : Nat} {P : GD} (hM : ML c P) (hV : GV P)  (hv : (-2147483648 ≤ ((x : Nat) : Int) ∧ ((x : Nat) : Int) < 2147483648) ∧ ((((decide (0 ≤ ((x : Nat) : Int) ∧ ((x : Nat) : Int) < (gN P : Int))) = false) → post (some (vi ((-2)))) (S nw nx g, 78 + gn, c)) ∧ (((decide (0 ≤ ((x : Nat) : Int) ∧ ((x : Nat) : Int) < (gN P : Int))) = true) → (x < gN P) ∧ (post (some (vi (((gI P x : Nat) : Int)))) (S nw nx g, 78 + gn, c))))) :
    SW G (j + 2) mX9_inverse 0 [some (vr (49)), some (vi (((x : Nat) : Int)))] [] (S nw nx g, 78 + gn, c) B0 post := by
  refine sw_aload_n (dX9_inverse.at 0 rfl) rfl rfl ?_
  refine sw_iload_n (dX9_inverse.at 1 rfl) rfl rfl ?_
  refine sw_callV (B' := B0) (As := [vi (((x : Nat) : Int))]) (mc := 0) (ms := 0) (dX9_inverse.at 2 rfl) lk_X9_251 (S_lt 49 (by decide)) (S_49 nw nx g) rfl rfl (Nat.le_of_ble_eq_true rfl) rfl (Nat.le_refl _) (Nat.le_refl _) ?_
  refine c_X9_isElement (x := ((x : Nat) : Int)) (j := j + 0) hM hV hv.1 ?_
  replace hv := hv.2
  refine sw_if_eq (tgt := 17) (dX9_inverse.at 3 rfl) (by decide) (bz_rng _) (fun q => ?_) (fun q => ?_)
  · replace hv := hv.1 (bz_0 q)
    refine sw_bipush (dX9_inverse.at 9 rfl) (by decide) ?_
    exact sw_iret (dX9_inverse.at 10 rfl) rfl (Nat.le_refl _) (Nat.le_refl _) hv
  · replace hv := hv.2 (bz_n0 q)
    refine sw_aload_n (dX9_inverse.at 4 rfl) rfl rfl ?_
    refine sw_getR (dX9_inverse.at 5 rfl) fp_X9_41 (S_lt 49 (by decide)) (S_49 nw nx g) rfl rfl ?_
    refine sw_iload_n (dX9_inverse.at 6 rfl) rfl rfl ?_
    refine sw_ialdN x (w := ((gI P x : Nat) : Int)) (dX9_inverse.at 7 rfl) (S_lt 59 (by decide)) (S_59 nw nx g) (by decide) (GV_lt hV hv.1) (ML_I hM hv.1) ?_
    replace hv := hv.2
    refine sw_goto (tgt := 19) (dX9_inverse.at 8 rfl) (by decide) ?_
    exact sw_iret (dX9_inverse.at 10 rfl) rfl (Nat.le_refl _) (Nat.le_refl _) hv

set_option maxHeartbeats 2000000 in
set_option maxRecDepth 20000 in
theorem g_X9_inverse_0 {G : GG} {j nw nx gn : Nat} {g : Nat → Sh} {c : Nat → Nat → Int} {post : Option AV → AM → Prop} {x : Int} {P : GD} (hM : ML c P) (hV : GV P)  (hv : (-2147483648 ≤ x ∧ x < 2147483648) ∧ ((((decide (0 ≤ x ∧ x < (gN P : Int))) = false) → post (some (vi ((-2)))) (S nw nx g, 78 + gn, c)) ∧ (((decide (0 ≤ x ∧ x < (gN P : Int))) = true) → SW G (j + 2) mX9_inverse 13 [some (vr (49)), some (vi (x))] [vi (x), vr (59)] (S nw nx g, 78 + gn, c) B0 post))) :
    SW G (j + 2) mX9_inverse 0 [some (vr (49)), some (vi (x))] [] (S nw nx g, 78 + gn, c) B0 post := by
  refine sw_aload_n (dX9_inverse.at 0 rfl) rfl rfl ?_
  refine sw_iload_n (dX9_inverse.at 1 rfl) rfl rfl ?_
  refine sw_callV (B' := B0) (As := [vi (x)]) (mc := 0) (ms := 0) (dX9_inverse.at 2 rfl) lk_X9_251 (S_lt 49 (by decide)) (S_49 nw nx g) rfl rfl (Nat.le_of_ble_eq_true rfl) rfl (Nat.le_refl _) (Nat.le_refl _) ?_
  refine c_X9_isElement (x := x) (j := j + 0) hM hV hv.1 ?_
  replace hv := hv.2
  refine sw_if_eq (tgt := 17) (dX9_inverse.at 3 rfl) (by decide) (bz_rng _) (fun q => ?_) (fun q => ?_)
  · replace hv := hv.1 (bz_0 q)
    refine sw_bipush (dX9_inverse.at 9 rfl) (by decide) ?_
    exact sw_iret (dX9_inverse.at 10 rfl) rfl (Nat.le_refl _) (Nat.le_refl _) hv
  · replace hv := hv.2 (bz_n0 q)
    refine sw_aload_n (dX9_inverse.at 4 rfl) rfl rfl ?_
    refine sw_getR (dX9_inverse.at 5 rfl) fp_X9_41 (S_lt 49 (by decide)) (S_49 nw nx g) rfl rfl ?_
    refine sw_iload_n (dX9_inverse.at 6 rfl) rfl rfl ?_
    exact hv

set_option maxHeartbeats 4000000 in
theorem c_X9_inverse {G : GG} {j nw nx gn : Nat} {g : Nat → Sh} {c : Nat → Nat → Int} {post : Option AV → AM → Prop} {P : GD} {x : Int} (hM : ML c P) (hV : GV P) (p1 : -2147483648 ≤ x ∧ x < 2147483648) (K : ∀ c2 : Nat → Nat → Int, SC c c2 → post (some (vi (q_inverse P x))) (S nw nx g, 78 + gn, c2)) : SM G (j + 3) mX9_inverse [vr (49), vi (x)] (S nw nx g, 78 + gn, c) 0 0 post := by
  refine sm_of wX9_inverse rfl (Nat.le_of_ble_eq_true rfl) ?_
  have hN60 := GV_N hV
  have hR5 := GV_R hV
  by_cases hv : (0 ≤ x ∧ x < (gN P : Int))
  · obtain ⟨x, rfl⟩ : ∃ n : Nat, x = (n : Int) := ⟨x.toNat, by omega⟩
    have e : q_inverse P ((x : Nat) : Int) = ((gI P x : Nat) : Int) := by
      rw [q_inverse, if_pos hv]
      simp only [Int.toNat_natCast]
    rw [e] at K
    have K1 : ∀ (z : Int) (c2 : Nat → Nat → Int), (SC c c2) → z = (((gI P x : Nat) : Int)) → post (some (vi z)) (S nw nx g, 78 + gn, c2) := fun z c2 h e9 => e9 ▸ K c2 h
    refine g_X9_inverse_0n hM hV ?_
    refine ⟨?_, ⟨fun q => ?_, fun q => ⟨?_, ?_⟩⟩⟩
    all_goals first | omega | assumption | (exfalso; simp only [decide_eq_true_eq, decide_eq_false_iff_not] at *; omega) | exact K _ (by first | exact SC_rf | assumption | (refine SC_tr ?_ (by assumption); first | assumption | (refine SC_tr ?_ (by assumption); first | assumption | (refine SC_tr ?_ (by assumption); assumption)))) | (refine K1 _ _ (by first | exact SC_rf | assumption | (refine SC_tr ?_ (by assumption); first | assumption | (refine SC_tr ?_ (by assumption); first | assumption | (refine SC_tr ?_ (by assumption); assumption)))) ?_; first | rfl | (simp [bz, *]; done) | (split <;> first | rfl | omega))
  · have e : q_inverse P x = (-2) := by rw [q_inverse, if_neg hv]
    rw [e] at K
    have K1 : ∀ (z : Int) (c2 : Nat → Nat → Int), (SC c c2) → z = ((-2)) → post (some (vi z)) (S nw nx g, 78 + gn, c2) := fun z c2 h e9 => e9 ▸ K c2 h
    refine g_X9_inverse_0 hM hV ?_
    refine ⟨?_, ⟨fun q => ?_, fun q => ?_⟩⟩
    all_goals first | omega | assumption | (exfalso; simp only [decide_eq_true_eq, decide_eq_false_iff_not] at *; omega) | exact K _ (by first | exact SC_rf | assumption | (refine SC_tr ?_ (by assumption); first | assumption | (refine SC_tr ?_ (by assumption); first | assumption | (refine SC_tr ?_ (by assumption); assumption)))) | (refine K1 _ _ (by first | exact SC_rf | assumption | (refine SC_tr ?_ (by assumption); first | assumption | (refine SC_tr ?_ (by assumption); first | assumption | (refine SC_tr ?_ (by assumption); assumption)))) ?_; first | rfl | (simp [bz, *]; done) | (split <;> first | rfl | omega))

set_option maxHeartbeats 2000000 in
set_option maxRecDepth 20000 in
theorem g_X9_times_0n {G : GG} {j nw nx gn : Nat} {g : Nat → Sh} {c : Nat → Nat → Int} {post : Option AV → AM → Prop} {x : Nat} {y : Nat} {P : GD} (hM : ML c P) (hV : GV P) (hC : GC P)  (hv : (-2147483648 ≤ ((x : Nat) : Int) ∧ ((x : Nat) : Int) < 2147483648) ∧ ((((decide (0 ≤ ((x : Nat) : Int) ∧ ((x : Nat) : Int) < (gN P : Int))) = false) → post (some (vi ((-2)))) (S nw nx g, 78 + gn, c)) ∧ (((decide (0 ≤ ((x : Nat) : Int) ∧ ((x : Nat) : Int) < (gN P : Int))) = true) → (-2147483648 ≤ ((y : Nat) : Int) ∧ ((y : Nat) : Int) < 2147483648) ∧ ((((decide (0 ≤ ((y : Nat) : Int) ∧ ((y : Nat) : Int) < (gN P : Int))) = false) → post (some (vi ((-2)))) (S nw nx g, 78 + gn, c)) ∧ (((decide (0 ≤ ((y : Nat) : Int) ∧ ((y : Nat) : Int) < (gN P : Int))) = true) → (x < gN P) ∧ (y < gN P) ∧ (∀ c_1 : Nat → Nat → Int, SC c c_1 → post (some (vi (((gX P x y : Nat) : Int)))) (S nw nx g, 78 + gn, c_1))))))) :
    SW G (j + 2) mX9_times 0 [some (vr (49)), some (vi (((x : Nat) : Int))), some (vi (((y : Nat) : Int)))] [] (S nw nx g, 78 + gn, c) B0 post := by
  refine sw_aload_n (dX9_times.at 0 rfl) rfl rfl ?_
  refine sw_iload_n (dX9_times.at 1 rfl) rfl rfl ?_
  refine sw_callV (B' := B0) (As := [vi (((x : Nat) : Int))]) (mc := 0) (ms := 0) (dX9_times.at 2 rfl) lk_X9_251 (S_lt 49 (by decide)) (S_49 nw nx g) rfl rfl (Nat.le_of_ble_eq_true rfl) rfl (Nat.le_refl _) (Nat.le_refl _) ?_
  refine c_X9_isElement (x := ((x : Nat) : Int)) (j := j + 0) hM hV hv.1 ?_
  replace hv := hv.2
  refine sw_if_eq (tgt := 25) (dX9_times.at 3 rfl) (by decide) (bz_rng _) (fun q => ?_) (fun q => ?_)
  · replace hv := hv.1 (bz_0 q)
    refine sw_bipush (dX9_times.at 13 rfl) (by decide) ?_
    exact sw_iret (dX9_times.at 14 rfl) rfl (Nat.le_refl _) (Nat.le_refl _) hv
  · replace hv := hv.2 (bz_n0 q)
    refine sw_aload_n (dX9_times.at 4 rfl) rfl rfl ?_
    refine sw_iload_n (dX9_times.at 5 rfl) rfl rfl ?_
    refine sw_callV (B' := B0) (As := [vi (((y : Nat) : Int))]) (mc := 0) (ms := 0) (dX9_times.at 6 rfl) lk_X9_251 (S_lt 49 (by decide)) (S_49 nw nx g) rfl rfl (Nat.le_of_ble_eq_true rfl) rfl (Nat.le_refl _) (Nat.le_refl _) ?_
    refine c_X9_isElement (x := ((y : Nat) : Int)) (j := j + 0) hM hV hv.1 ?_
    replace hv := hv.2
    refine sw_if_eq (tgt := 25) (dX9_times.at 7 rfl) (by decide) (bz_rng _) (fun q => ?_) (fun q => ?_)
    · replace hv := hv.1 (bz_0 q)
      refine sw_bipush (dX9_times.at 13 rfl) (by decide) ?_
      exact sw_iret (dX9_times.at 14 rfl) rfl (Nat.le_refl _) (Nat.le_refl _) hv
    · replace hv := hv.2 (bz_n0 q)
      refine sw_aload_n (dX9_times.at 8 rfl) rfl rfl ?_
      refine sw_iload_n (dX9_times.at 9 rfl) rfl rfl ?_
      refine sw_iload_n (dX9_times.at 10 rfl) rfl rfl ?_
      refine sw_callV (B' := B0) (As := [vi (((x : Nat) : Int)), vi (((y : Nat) : Int))]) (mc := 0) (ms := 0) (dX9_times.at 11 rfl) lk_X9_237 (S_lt 49 (by decide)) (S_49 nw nx g) rfl rfl (Nat.le_of_ble_eq_true rfl) rfl (Nat.le_refl _) (Nat.le_refl _) ?_
      refine c_X9_product (x := x) (y := y) (j := j + 0) hM hV hC hv.1 hv.2.1 (fun c_1 h_1 => ?_)
      replace hv := hv.2.2 c_1 h_1
      refine sw_goto (tgt := 27) (dX9_times.at 12 rfl) (by decide) ?_
      exact sw_iret (dX9_times.at 14 rfl) rfl (Nat.le_refl _) (Nat.le_refl _) hv

set_option maxHeartbeats 2000000 in
set_option maxRecDepth 20000 in
theorem g_X9_times_0 {G : GG} {j nw nx gn : Nat} {g : Nat → Sh} {c : Nat → Nat → Int} {post : Option AV → AM → Prop} {x : Int} {y : Int} {P : GD} (hM : ML c P) (hV : GV P) (hC : GC P)  (hv : (-2147483648 ≤ x ∧ x < 2147483648) ∧ ((((decide (0 ≤ x ∧ x < (gN P : Int))) = false) → post (some (vi ((-2)))) (S nw nx g, 78 + gn, c)) ∧ (((decide (0 ≤ x ∧ x < (gN P : Int))) = true) → (-2147483648 ≤ y ∧ y < 2147483648) ∧ ((((decide (0 ≤ y ∧ y < (gN P : Int))) = false) → post (some (vi ((-2)))) (S nw nx g, 78 + gn, c)) ∧ (((decide (0 ≤ y ∧ y < (gN P : Int))) = true) → SW G (j + 2) mX9_times 19 [some (vr (49)), some (vi (x)), some (vi (y))] [vi (y), vi (x), vr (49)] (S nw nx g, 78 + gn, c) B0 post))))) :
    SW G (j + 2) mX9_times 0 [some (vr (49)), some (vi (x)), some (vi (y))] [] (S nw nx g, 78 + gn, c) B0 post := by
  refine sw_aload_n (dX9_times.at 0 rfl) rfl rfl ?_
  refine sw_iload_n (dX9_times.at 1 rfl) rfl rfl ?_
  refine sw_callV (B' := B0) (As := [vi (x)]) (mc := 0) (ms := 0) (dX9_times.at 2 rfl) lk_X9_251 (S_lt 49 (by decide)) (S_49 nw nx g) rfl rfl (Nat.le_of_ble_eq_true rfl) rfl (Nat.le_refl _) (Nat.le_refl _) ?_
  refine c_X9_isElement (x := x) (j := j + 0) hM hV hv.1 ?_
  replace hv := hv.2
  refine sw_if_eq (tgt := 25) (dX9_times.at 3 rfl) (by decide) (bz_rng _) (fun q => ?_) (fun q => ?_)
  · replace hv := hv.1 (bz_0 q)
    refine sw_bipush (dX9_times.at 13 rfl) (by decide) ?_
    exact sw_iret (dX9_times.at 14 rfl) rfl (Nat.le_refl _) (Nat.le_refl _) hv
  · replace hv := hv.2 (bz_n0 q)
    refine sw_aload_n (dX9_times.at 4 rfl) rfl rfl ?_
    refine sw_iload_n (dX9_times.at 5 rfl) rfl rfl ?_
    refine sw_callV (B' := B0) (As := [vi (y)]) (mc := 0) (ms := 0) (dX9_times.at 6 rfl) lk_X9_251 (S_lt 49 (by decide)) (S_49 nw nx g) rfl rfl (Nat.le_of_ble_eq_true rfl) rfl (Nat.le_refl _) (Nat.le_refl _) ?_
    refine c_X9_isElement (x := y) (j := j + 0) hM hV hv.1 ?_
    replace hv := hv.2
    refine sw_if_eq (tgt := 25) (dX9_times.at 7 rfl) (by decide) (bz_rng _) (fun q => ?_) (fun q => ?_)
    · replace hv := hv.1 (bz_0 q)
      refine sw_bipush (dX9_times.at 13 rfl) (by decide) ?_
      exact sw_iret (dX9_times.at 14 rfl) rfl (Nat.le_refl _) (Nat.le_refl _) hv
    · replace hv := hv.2 (bz_n0 q)
      refine sw_aload_n (dX9_times.at 8 rfl) rfl rfl ?_
      refine sw_iload_n (dX9_times.at 9 rfl) rfl rfl ?_
      refine sw_iload_n (dX9_times.at 10 rfl) rfl rfl ?_
      exact hv

set_option maxHeartbeats 4000000 in
theorem c_X9_times {G : GG} {j nw nx gn : Nat} {g : Nat → Sh} {c : Nat → Nat → Int} {post : Option AV → AM → Prop} {P : GD} {x y : Int} (hM : ML c P) (hV : GV P) (hC : GC P) (p1 : -2147483648 ≤ x ∧ x < 2147483648) (p2 : -2147483648 ≤ y ∧ y < 2147483648) (K : ∀ c2 : Nat → Nat → Int, SC c c2 → post (some (vi (q_times P x y))) (S nw nx g, 78 + gn, c2)) : SM G (j + 3) mX9_times [vr (49), vi (x), vi (y)] (S nw nx g, 78 + gn, c) 0 0 post := by
  refine sm_of wX9_times rfl (Nat.le_of_ble_eq_true rfl) ?_
  have hN60 := GV_N hV
  have hR5 := GV_R hV
  by_cases hv : (0 ≤ x ∧ x < (gN P : Int)) ∧ 0 ≤ y ∧ y < (gN P : Int)
  · obtain ⟨x, rfl⟩ : ∃ n : Nat, x = (n : Int) := ⟨x.toNat, by omega⟩
    obtain ⟨y, rfl⟩ : ∃ n : Nat, y = (n : Int) := ⟨y.toNat, by omega⟩
    have e : q_times P ((x : Nat) : Int) ((y : Nat) : Int) = ((gX P x y : Nat) : Int) := by
      rw [q_times, if_pos hv]
      simp only [Int.toNat_natCast]
    rw [e] at K
    have K1 : ∀ (z : Int) (c2 : Nat → Nat → Int), (SC c c2) → z = (((gX P x y : Nat) : Int)) → post (some (vi z)) (S nw nx g, 78 + gn, c2) := fun z c2 h e9 => e9 ▸ K c2 h
    refine g_X9_times_0n hM hV hC ?_
    refine ⟨?_, ⟨fun q => ?_, fun q => ⟨?_, ⟨fun q => ?_, fun q => ⟨?_, ?_, fun c_1 h_1 => ?_⟩⟩⟩⟩⟩
    all_goals first | omega | assumption | (exfalso; simp only [decide_eq_true_eq, decide_eq_false_iff_not] at *; omega) | exact K _ (by first | exact SC_rf | assumption | (refine SC_tr ?_ (by assumption); first | assumption | (refine SC_tr ?_ (by assumption); first | assumption | (refine SC_tr ?_ (by assumption); assumption)))) | (refine K1 _ _ (by first | exact SC_rf | assumption | (refine SC_tr ?_ (by assumption); first | assumption | (refine SC_tr ?_ (by assumption); first | assumption | (refine SC_tr ?_ (by assumption); assumption)))) ?_; first | rfl | (simp [bz, *]; done) | (split <;> first | rfl | omega))
  · have e : q_times P x y = (-2) := by rw [q_times, if_neg hv]
    rw [e] at K
    have K1 : ∀ (z : Int) (c2 : Nat → Nat → Int), (SC c c2) → z = ((-2)) → post (some (vi z)) (S nw nx g, 78 + gn, c2) := fun z c2 h e9 => e9 ▸ K c2 h
    refine g_X9_times_0 hM hV hC ?_
    refine ⟨?_, ⟨fun q => ?_, fun q => ⟨?_, ⟨fun q => ?_, fun q => ?_⟩⟩⟩⟩
    all_goals first | omega | assumption | (exfalso; simp only [decide_eq_true_eq, decide_eq_false_iff_not] at *; omega) | exact K _ (by first | exact SC_rf | assumption | (refine SC_tr ?_ (by assumption); first | assumption | (refine SC_tr ?_ (by assumption); first | assumption | (refine SC_tr ?_ (by assumption); assumption)))) | (refine K1 _ _ (by first | exact SC_rf | assumption | (refine SC_tr ?_ (by assumption); first | assumption | (refine SC_tr ?_ (by assumption); first | assumption | (refine SC_tr ?_ (by assumption); assumption)))) ?_; first | rfl | (simp [bz, *]; done) | (split <;> first | rfl | omega))

set_option maxHeartbeats 2000000 in
set_option maxRecDepth 20000 in
theorem g_X9_bond_0n {G : GG} {j nw nx gn : Nat} {g : Nat → Sh} {c : Nat → Nat → Int} {post : Option AV → AM → Prop} {x : Nat} {y : Nat} {P : GD} (hM : ML c P) (hV : GV P)  (hv : (x < 2147483648) ∧ ((-2147483648 ≤ ((gR P : Nat) : Int) - 1 ∧ ((gR P : Nat) : Int) - 1 < 2147483648) ∧ ((-9223372036854775808 ≤ (((x : Nat) : Int) : Int) ∧ (((x : Nat) : Int) : Int) < 9223372036854775808) ∧ (-9223372036854775808 ≤ (0 : Int) ∧ (0 : Int) < 9223372036854775808) ∧ (-9223372036854775808 ≤ ((((gR P : Nat) : Int) - 1) : Int) ∧ ((((gR P : Nat) : Int) - 1) : Int) < 9223372036854775808) ∧ ((((decide (0 ≤ ((x : Nat) : Int) ∧ ((x : Nat) : Int) ≤ (((gR P : Nat) : Int) - 1))) = false) → post (some (vi ((-2)))) (S nw nx g, 78 + gn, c)) ∧ (((decide (0 ≤ ((x : Nat) : Int) ∧ ((x : Nat) : Int) ≤ (((gR P : Nat) : Int) - 1))) = true) → (y < 2147483648) ∧ ((-2147483648 ≤ ((gR P : Nat) : Int) - 1 ∧ ((gR P : Nat) : Int) - 1 < 2147483648) ∧ ((-9223372036854775808 ≤ (((y : Nat) : Int) : Int) ∧ (((y : Nat) : Int) : Int) < 9223372036854775808) ∧ (-9223372036854775808 ≤ (0 : Int) ∧ (0 : Int) < 9223372036854775808) ∧ (-9223372036854775808 ≤ ((((gR P : Nat) : Int) - 1) : Int) ∧ ((((gR P : Nat) : Int) - 1) : Int) < 9223372036854775808) ∧ ((((decide (0 ≤ ((y : Nat) : Int) ∧ ((y : Nat) : Int) ≤ (((gR P : Nat) : Int) - 1))) = false) → post (some (vi ((-2)))) (S nw nx g, 78 + gn, c)) ∧ (((decide (0 ≤ ((y : Nat) : Int) ∧ ((y : Nat) : Int) ≤ (((gR P : Nat) : Int) - 1))) = true) → (x < gR P) ∧ (y < gR P) ∧ (post (some (vi (((gBd P x y : Nat) : Int)))) (S nw nx g, 78 + gn, c))))))))))) :
    SW G (j + 1) mX9_bond 0 [some (vr (49)), some (vi (((x : Nat) : Int))), some (vi (((y : Nat) : Int)))] [] (S nw nx g, 78 + gn, c) B0 post := by
  refine sw_iload_n (dX9_bond.at 0 rfl) rfl rfl ?_
  refine sw_i2l (dX9_bond.at 1 rfl) (nrng hv.1) ?_
  replace hv := hv.2
  refine sw_lconst (z := 0) (dX9_bond.at 2 rfl) (by decide) ?_
  refine sw_aload_n (dX9_bond.at 3 rfl) rfl rfl ?_
  refine sw_getIE (w := ((gR P : Nat) : Int)) (dX9_bond.at 4 rfl) fp_X9_159 (S_lt 49 (by decide)) (S_49 nw nx g) rfl hM.1.1 ?_
  refine sw_iconst (dX9_bond.at 5 rfl) ?_
  refine sw_isub (dX9_bond.at 6 rfl) ?_
  refine sw_i2l (dX9_bond.at 7 rfl) hv.1 ?_
  replace hv := hv.2
  refine sw_callS (post' := post) (B' := B0) (As := [vl (((x : Nat) : Int)), vl (0), vl (((gR P : Nat) : Int) - 1)]) (mc := 0) (ms := 0) (dX9_bond.at 8 rfl) lk_X9_104 rfl rfl (Nat.le_of_ble_eq_true rfl) rfl (Nat.le_refl _) (Nat.le_refl _) ?_
  refine c_X9_in (u := ((x : Nat) : Int)) (lo := 0) (hi := (((gR P : Nat) : Int) - 1)) (j := j + 0) hv.1 hv.2.1 hv.2.2.1 ?_
  replace hv := hv.2.2.2
  refine sw_if_eq (tgt := 45) (dX9_bond.at 9 rfl) (by decide) (bz_rng _) (fun q => ?_) (fun q => ?_)
  · replace hv := hv.1 (bz_0 q)
    refine sw_bipush (dX9_bond.at 29 rfl) (by decide) ?_
    exact sw_iret (dX9_bond.at 30 rfl) rfl (Nat.le_refl _) (Nat.le_refl _) hv
  · replace hv := hv.2 (bz_n0 q)
    refine sw_iload_n (dX9_bond.at 10 rfl) rfl rfl ?_
    refine sw_i2l (dX9_bond.at 11 rfl) (nrng hv.1) ?_
    replace hv := hv.2
    refine sw_lconst (z := 0) (dX9_bond.at 12 rfl) (by decide) ?_
    refine sw_aload_n (dX9_bond.at 13 rfl) rfl rfl ?_
    refine sw_getIE (w := ((gR P : Nat) : Int)) (dX9_bond.at 14 rfl) fp_X9_159 (S_lt 49 (by decide)) (S_49 nw nx g) rfl hM.1.1 ?_
    refine sw_iconst (dX9_bond.at 15 rfl) ?_
    refine sw_isub (dX9_bond.at 16 rfl) ?_
    refine sw_i2l (dX9_bond.at 17 rfl) hv.1 ?_
    replace hv := hv.2
    refine sw_callS (post' := post) (B' := B0) (As := [vl (((y : Nat) : Int)), vl (0), vl (((gR P : Nat) : Int) - 1)]) (mc := 0) (ms := 0) (dX9_bond.at 18 rfl) lk_X9_104 rfl rfl (Nat.le_of_ble_eq_true rfl) rfl (Nat.le_refl _) (Nat.le_refl _) ?_
    refine c_X9_in (u := ((y : Nat) : Int)) (lo := 0) (hi := (((gR P : Nat) : Int) - 1)) (j := j + 0) hv.1 hv.2.1 hv.2.2.1 ?_
    replace hv := hv.2.2.2
    refine sw_if_eq (tgt := 45) (dX9_bond.at 19 rfl) (by decide) (bz_rng _) (fun q => ?_) (fun q => ?_)
    · replace hv := hv.1 (bz_0 q)
      refine sw_bipush (dX9_bond.at 29 rfl) (by decide) ?_
      exact sw_iret (dX9_bond.at 30 rfl) rfl (Nat.le_refl _) (Nat.le_refl _) hv
    · replace hv := hv.2 (bz_n0 q)
      refine sw_aload_n (dX9_bond.at 20 rfl) rfl rfl ?_
      refine sw_getR (dX9_bond.at 21 rfl) fp_X9_17 (S_lt 49 (by decide)) (S_49 nw nx g) rfl rfl ?_
      refine sw_iconst (dX9_bond.at 22 rfl) ?_
      refine sw_iload_n (dX9_bond.at 23 rfl) rfl rfl ?_
      refine sw_imul (dX9_bond.at 24 rfl) ?_
      refine sw_topI (y := ((5 * x : Nat) : Int)) (by first | rfl | (congr 1)) ?_
      refine sw_iload_n (dX9_bond.at 25 rfl) rfl rfl ?_
      refine sw_iadd (dX9_bond.at 26 rfl) ?_
      refine sw_topI (y := (((5 * x) + y : Nat) : Int)) (by first | rfl | (congr 1)) ?_
      refine sw_ialdN ((5 * x) + y) (w := ((gBd P x y : Nat) : Int)) (dX9_bond.at 27 rfl) (S_lt 51 (by decide)) (S_51 nw nx g) (by decide) (GV_5r hV hv.1 hv.2.1) (ML_B hM hv.1 hv.2.1) ?_
      replace hv := hv.2.2
      refine sw_goto (tgt := 47) (dX9_bond.at 28 rfl) (by decide) ?_
      exact sw_iret (dX9_bond.at 30 rfl) rfl (Nat.le_refl _) (Nat.le_refl _) hv

set_option maxHeartbeats 2000000 in
set_option maxRecDepth 20000 in
theorem g_X9_bond_0 {G : GG} {j nw nx gn : Nat} {g : Nat → Sh} {c : Nat → Nat → Int} {post : Option AV → AM → Prop} {x : Int} {y : Int} {P : GD} (hM : ML c P) (hV : GV P)  (hv : (-2147483648 ≤ x ∧ x < 2147483648) ∧ ((-2147483648 ≤ ((gR P : Nat) : Int) - 1 ∧ ((gR P : Nat) : Int) - 1 < 2147483648) ∧ ((-9223372036854775808 ≤ (x : Int) ∧ (x : Int) < 9223372036854775808) ∧ (-9223372036854775808 ≤ (0 : Int) ∧ (0 : Int) < 9223372036854775808) ∧ (-9223372036854775808 ≤ ((((gR P : Nat) : Int) - 1) : Int) ∧ ((((gR P : Nat) : Int) - 1) : Int) < 9223372036854775808) ∧ ((((decide (0 ≤ x ∧ x ≤ (((gR P : Nat) : Int) - 1))) = false) → post (some (vi ((-2)))) (S nw nx g, 78 + gn, c)) ∧ (((decide (0 ≤ x ∧ x ≤ (((gR P : Nat) : Int) - 1))) = true) → (-2147483648 ≤ y ∧ y < 2147483648) ∧ ((-2147483648 ≤ ((gR P : Nat) : Int) - 1 ∧ ((gR P : Nat) : Int) - 1 < 2147483648) ∧ ((-9223372036854775808 ≤ (y : Int) ∧ (y : Int) < 9223372036854775808) ∧ (-9223372036854775808 ≤ (0 : Int) ∧ (0 : Int) < 9223372036854775808) ∧ (-9223372036854775808 ≤ ((((gR P : Nat) : Int) - 1) : Int) ∧ ((((gR P : Nat) : Int) - 1) : Int) < 9223372036854775808) ∧ ((((decide (0 ≤ y ∧ y ≤ (((gR P : Nat) : Int) - 1))) = false) → post (some (vi ((-2)))) (S nw nx g, 78 + gn, c)) ∧ (((decide (0 ≤ y ∧ y ≤ (((gR P : Nat) : Int) - 1))) = true) → SW G (j + 1) mX9_bond 41 [some (vr (49)), some (vi (x)), some (vi (y))] [vi ((5 * x) + y), vr (51)] (S nw nx g, 78 + gn, c) B0 post))))))))) :
    SW G (j + 1) mX9_bond 0 [some (vr (49)), some (vi (x)), some (vi (y))] [] (S nw nx g, 78 + gn, c) B0 post := by
  refine sw_iload_n (dX9_bond.at 0 rfl) rfl rfl ?_
  refine sw_i2l (dX9_bond.at 1 rfl) hv.1 ?_
  replace hv := hv.2
  refine sw_lconst (z := 0) (dX9_bond.at 2 rfl) (by decide) ?_
  refine sw_aload_n (dX9_bond.at 3 rfl) rfl rfl ?_
  refine sw_getIE (w := ((gR P : Nat) : Int)) (dX9_bond.at 4 rfl) fp_X9_159 (S_lt 49 (by decide)) (S_49 nw nx g) rfl hM.1.1 ?_
  refine sw_iconst (dX9_bond.at 5 rfl) ?_
  refine sw_isub (dX9_bond.at 6 rfl) ?_
  refine sw_i2l (dX9_bond.at 7 rfl) hv.1 ?_
  replace hv := hv.2
  refine sw_callS (post' := post) (B' := B0) (As := [vl (x), vl (0), vl (((gR P : Nat) : Int) - 1)]) (mc := 0) (ms := 0) (dX9_bond.at 8 rfl) lk_X9_104 rfl rfl (Nat.le_of_ble_eq_true rfl) rfl (Nat.le_refl _) (Nat.le_refl _) ?_
  refine c_X9_in (u := x) (lo := 0) (hi := (((gR P : Nat) : Int) - 1)) (j := j + 0) hv.1 hv.2.1 hv.2.2.1 ?_
  replace hv := hv.2.2.2
  refine sw_if_eq (tgt := 45) (dX9_bond.at 9 rfl) (by decide) (bz_rng _) (fun q => ?_) (fun q => ?_)
  · replace hv := hv.1 (bz_0 q)
    refine sw_bipush (dX9_bond.at 29 rfl) (by decide) ?_
    exact sw_iret (dX9_bond.at 30 rfl) rfl (Nat.le_refl _) (Nat.le_refl _) hv
  · replace hv := hv.2 (bz_n0 q)
    refine sw_iload_n (dX9_bond.at 10 rfl) rfl rfl ?_
    refine sw_i2l (dX9_bond.at 11 rfl) hv.1 ?_
    replace hv := hv.2
    refine sw_lconst (z := 0) (dX9_bond.at 12 rfl) (by decide) ?_
    refine sw_aload_n (dX9_bond.at 13 rfl) rfl rfl ?_
    refine sw_getIE (w := ((gR P : Nat) : Int)) (dX9_bond.at 14 rfl) fp_X9_159 (S_lt 49 (by decide)) (S_49 nw nx g) rfl hM.1.1 ?_
    refine sw_iconst (dX9_bond.at 15 rfl) ?_
    refine sw_isub (dX9_bond.at 16 rfl) ?_
    refine sw_i2l (dX9_bond.at 17 rfl) hv.1 ?_
    replace hv := hv.2
    refine sw_callS (post' := post) (B' := B0) (As := [vl (y), vl (0), vl (((gR P : Nat) : Int) - 1)]) (mc := 0) (ms := 0) (dX9_bond.at 18 rfl) lk_X9_104 rfl rfl (Nat.le_of_ble_eq_true rfl) rfl (Nat.le_refl _) (Nat.le_refl _) ?_
    refine c_X9_in (u := y) (lo := 0) (hi := (((gR P : Nat) : Int) - 1)) (j := j + 0) hv.1 hv.2.1 hv.2.2.1 ?_
    replace hv := hv.2.2.2
    refine sw_if_eq (tgt := 45) (dX9_bond.at 19 rfl) (by decide) (bz_rng _) (fun q => ?_) (fun q => ?_)
    · replace hv := hv.1 (bz_0 q)
      refine sw_bipush (dX9_bond.at 29 rfl) (by decide) ?_
      exact sw_iret (dX9_bond.at 30 rfl) rfl (Nat.le_refl _) (Nat.le_refl _) hv
    · replace hv := hv.2 (bz_n0 q)
      refine sw_aload_n (dX9_bond.at 20 rfl) rfl rfl ?_
      refine sw_getR (dX9_bond.at 21 rfl) fp_X9_17 (S_lt 49 (by decide)) (S_49 nw nx g) rfl rfl ?_
      refine sw_iconst (dX9_bond.at 22 rfl) ?_
      refine sw_iload_n (dX9_bond.at 23 rfl) rfl rfl ?_
      refine sw_imul (dX9_bond.at 24 rfl) ?_
      refine sw_iload_n (dX9_bond.at 25 rfl) rfl rfl ?_
      refine sw_iadd (dX9_bond.at 26 rfl) ?_
      exact hv

set_option maxHeartbeats 4000000 in
theorem c_X9_bond {G : GG} {j nw nx gn : Nat} {g : Nat → Sh} {c : Nat → Nat → Int} {post : Option AV → AM → Prop} {P : GD} {x y : Int} (hM : ML c P) (hV : GV P) (p1 : -2147483648 ≤ x ∧ x < 2147483648) (p2 : -2147483648 ≤ y ∧ y < 2147483648) (K : ∀ c2 : Nat → Nat → Int, SC c c2 → post (some (vi (q_bond P x y))) (S nw nx g, 78 + gn, c2)) : SM G (j + 2) mX9_bond [vr (49), vi (x), vi (y)] (S nw nx g, 78 + gn, c) 0 0 post := by
  refine sm_of wX9_bond rfl (Nat.le_of_ble_eq_true rfl) ?_
  have hN60 := GV_N hV
  have hR5 := GV_R hV
  by_cases hv : (0 ≤ x ∧ x < (gR P : Int)) ∧ 0 ≤ y ∧ y < (gR P : Int)
  · obtain ⟨x, rfl⟩ : ∃ n : Nat, x = (n : Int) := ⟨x.toNat, by omega⟩
    obtain ⟨y, rfl⟩ : ∃ n : Nat, y = (n : Int) := ⟨y.toNat, by omega⟩
    have e : q_bond P ((x : Nat) : Int) ((y : Nat) : Int) = ((gBd P x y : Nat) : Int) := by
      rw [q_bond, if_pos hv]
      simp only [Int.toNat_natCast]
    rw [e] at K
    have K1 : ∀ (z : Int) (c2 : Nat → Nat → Int), (SC c c2) → z = (((gBd P x y : Nat) : Int)) → post (some (vi z)) (S nw nx g, 78 + gn, c2) := fun z c2 h e9 => e9 ▸ K c2 h
    refine g_X9_bond_0n hM hV ?_
    refine ⟨?_, ⟨?_, ⟨?_, ?_, ?_, ⟨fun q => ?_, fun q => ⟨?_, ⟨?_, ⟨?_, ?_, ?_, ⟨fun q => ?_, fun q => ⟨?_, ?_, ?_⟩⟩⟩⟩⟩⟩⟩⟩⟩
    all_goals first | omega | assumption | (exfalso; simp only [decide_eq_true_eq, decide_eq_false_iff_not] at *; omega) | exact K _ (by first | exact SC_rf | assumption | (refine SC_tr ?_ (by assumption); first | assumption | (refine SC_tr ?_ (by assumption); first | assumption | (refine SC_tr ?_ (by assumption); assumption)))) | (refine K1 _ _ (by first | exact SC_rf | assumption | (refine SC_tr ?_ (by assumption); first | assumption | (refine SC_tr ?_ (by assumption); first | assumption | (refine SC_tr ?_ (by assumption); assumption)))) ?_; first | rfl | (simp [bz, *]; done) | (split <;> first | rfl | omega))
  · have e : q_bond P x y = (-2) := by rw [q_bond, if_neg hv]
    rw [e] at K
    have K1 : ∀ (z : Int) (c2 : Nat → Nat → Int), (SC c c2) → z = ((-2)) → post (some (vi z)) (S nw nx g, 78 + gn, c2) := fun z c2 h e9 => e9 ▸ K c2 h
    refine g_X9_bond_0 hM hV ?_
    refine ⟨?_, ⟨?_, ⟨?_, ?_, ?_, ⟨fun q => ?_, fun q => ⟨?_, ⟨?_, ⟨?_, ?_, ?_, ⟨fun q => ?_, fun q => ?_⟩⟩⟩⟩⟩⟩⟩⟩
    all_goals first | omega | assumption | (exfalso; simp only [decide_eq_true_eq, decide_eq_false_iff_not] at *; omega) | exact K _ (by first | exact SC_rf | assumption | (refine SC_tr ?_ (by assumption); first | assumption | (refine SC_tr ?_ (by assumption); first | assumption | (refine SC_tr ?_ (by assumption); assumption)))) | (refine K1 _ _ (by first | exact SC_rf | assumption | (refine SC_tr ?_ (by assumption); first | assumption | (refine SC_tr ?_ (by assumption); first | assumption | (refine SC_tr ?_ (by assumption); assumption)))) ?_; first | rfl | (simp [bz, *]; done) | (split <;> first | rfl | omega))

set_option maxHeartbeats 2000000 in
set_option maxRecDepth 20000 in
theorem g_X9_reflection_0n {G : GG} {j nw nx gn : Nat} {g : Nat → Sh} {c : Nat → Nat → Int} {post : Option AV → AM → Prop} {i : Nat} {P : GD} (hM : ML c P) (hV : GV P)  (hv : (((decide (0 < gN P)) = false) → post (some (vi ((-2)))) (S nw nx g, 78 + gn, c)) ∧ (((decide (0 < gN P)) = true) → (i < 2147483648) ∧ (((0 ≤ ((i : Nat) : Int)) → (i < 2147483648) ∧ (gM P < 2147483648) ∧ (((gM P ≤ i) → post (some (vi ((-1)))) (S nw nx g, 78 + gn, c)) ∧ ((¬ (gM P ≤ i)) → (i < gM P) ∧ (post (some (vi (((gT P i : Nat) : Int)))) (S nw nx g, 78 + gn, c))))) ∧ ((¬ (0 ≤ ((i : Nat) : Int))) → post (some (vi ((-2)))) (S nw nx g, 78 + gn, c))))) :
    SW G (j + 1) mX9_reflection 0 [some (vr (49)), some (vi (((i : Nat) : Int)))] [] (S nw nx g, 78 + gn, c) B0 post := by
  refine sw_aload_n (dX9_reflection.at 0 rfl) rfl rfl ?_
  refine sw_callV (B' := B0) (As := []) (mc := 0) (ms := 0) (dX9_reflection.at 1 rfl) lk_X9_248 (S_lt 49 (by decide)) (S_49 nw nx g) rfl rfl (Nat.le_of_ble_eq_true rfl) rfl (Nat.le_refl _) (Nat.le_refl _) ?_
  refine c_X9_is  (j := j + 0) hM hV ?_
  refine sw_if_eq (tgt := 11) (dX9_reflection.at 2 rfl) (by decide) (bz_rng _) (fun q => ?_) (fun q => ?_)
  · replace hv := hv.1 (bz_0 q)
    refine sw_bipush (dX9_reflection.at 5 rfl) (by decide) ?_
    exact sw_iret (dX9_reflection.at 6 rfl) rfl (Nat.le_refl _) (Nat.le_refl _) hv
  · replace hv := hv.2 (bz_n0 q)
    refine sw_iload_n (dX9_reflection.at 3 rfl) rfl rfl ?_
    refine sw_if_ge (tgt := 14) (dX9_reflection.at 4 rfl) (by decide) (nrng hv.1) (fun q => ?_) (fun q => ?_)
    · replace hv := hv.2.1 q
      refine sw_iload_n (dX9_reflection.at 7 rfl) rfl rfl ?_
      refine sw_aload_n (dX9_reflection.at 8 rfl) rfl rfl ?_
      refine sw_getIE (w := ((gM P : Nat) : Int)) (dX9_reflection.at 9 rfl) fp_X9_215 (S_lt 49 (by decide)) (S_49 nw nx g) rfl hM.1.2.2.1 ?_
      refine sw_icmpN_ge i (gM P) (tgt := 31) (dX9_reflection.at 10 rfl) (by decide) hv.1 hv.2.1 (fun q => ?_) (fun q => ?_)
      · replace hv := hv.2.2.1 q
        refine sw_iconst (dX9_reflection.at 16 rfl) ?_
        exact sw_iret (dX9_reflection.at 17 rfl) rfl (Nat.le_refl _) (Nat.le_refl _) hv
      · replace hv := hv.2.2.2 q
        refine sw_aload_n (dX9_reflection.at 11 rfl) rfl rfl ?_
        refine sw_getR (dX9_reflection.at 12 rfl) fp_X9_44 (S_lt 49 (by decide)) (S_49 nw nx g) rfl rfl ?_
        refine sw_iload_n (dX9_reflection.at 13 rfl) rfl rfl ?_
        refine sw_ialdN i (w := ((gT P i : Nat) : Int)) (dX9_reflection.at 14 rfl) (S_lt 60 (by decide)) (S_60 nw nx g) (by decide) (GV_ltM hV hv.1) (ML_T hM hv.1) ?_
        replace hv := hv.2
        refine sw_goto (tgt := 32) (dX9_reflection.at 15 rfl) (by decide) ?_
        exact sw_iret (dX9_reflection.at 17 rfl) rfl (Nat.le_refl _) (Nat.le_refl _) hv
    · replace hv := hv.2.2 q
      refine sw_bipush (dX9_reflection.at 5 rfl) (by decide) ?_
      exact sw_iret (dX9_reflection.at 6 rfl) rfl (Nat.le_refl _) (Nat.le_refl _) hv

set_option maxHeartbeats 2000000 in
set_option maxRecDepth 20000 in
theorem g_X9_reflection_0 {G : GG} {j nw nx gn : Nat} {g : Nat → Sh} {c : Nat → Nat → Int} {post : Option AV → AM → Prop} {i : Int} {P : GD} (hM : ML c P) (hV : GV P)  (hv : (((decide (0 < gN P)) = false) → post (some (vi ((-2)))) (S nw nx g, 78 + gn, c)) ∧ (((decide (0 < gN P)) = true) → (-2147483648 ≤ i ∧ i < 2147483648) ∧ (((0 ≤ i) → (-2147483648 ≤ i ∧ i < 2147483648) ∧ (gM P < 2147483648) ∧ (((((gM P : Nat) : Int) ≤ i) → post (some (vi ((-1)))) (S nw nx g, 78 + gn, c)) ∧ ((¬ (((gM P : Nat) : Int) ≤ i)) → SW G (j + 1) mX9_reflection 27 [some (vr (49)), some (vi (i))] [vi (i), vr (60)] (S nw nx g, 78 + gn, c) B0 post))) ∧ ((¬ (0 ≤ i)) → post (some (vi ((-2)))) (S nw nx g, 78 + gn, c))))) :
    SW G (j + 1) mX9_reflection 0 [some (vr (49)), some (vi (i))] [] (S nw nx g, 78 + gn, c) B0 post := by
  refine sw_aload_n (dX9_reflection.at 0 rfl) rfl rfl ?_
  refine sw_callV (B' := B0) (As := []) (mc := 0) (ms := 0) (dX9_reflection.at 1 rfl) lk_X9_248 (S_lt 49 (by decide)) (S_49 nw nx g) rfl rfl (Nat.le_of_ble_eq_true rfl) rfl (Nat.le_refl _) (Nat.le_refl _) ?_
  refine c_X9_is  (j := j + 0) hM hV ?_
  refine sw_if_eq (tgt := 11) (dX9_reflection.at 2 rfl) (by decide) (bz_rng _) (fun q => ?_) (fun q => ?_)
  · replace hv := hv.1 (bz_0 q)
    refine sw_bipush (dX9_reflection.at 5 rfl) (by decide) ?_
    exact sw_iret (dX9_reflection.at 6 rfl) rfl (Nat.le_refl _) (Nat.le_refl _) hv
  · replace hv := hv.2 (bz_n0 q)
    refine sw_iload_n (dX9_reflection.at 3 rfl) rfl rfl ?_
    refine sw_if_ge (tgt := 14) (dX9_reflection.at 4 rfl) (by decide) hv.1 (fun q => ?_) (fun q => ?_)
    · replace hv := hv.2.1 q
      refine sw_iload_n (dX9_reflection.at 7 rfl) rfl rfl ?_
      refine sw_aload_n (dX9_reflection.at 8 rfl) rfl rfl ?_
      refine sw_getIE (w := ((gM P : Nat) : Int)) (dX9_reflection.at 9 rfl) fp_X9_215 (S_lt 49 (by decide)) (S_49 nw nx g) rfl hM.1.2.2.1 ?_
      refine sw_icmp_ge (tgt := 31) (dX9_reflection.at 10 rfl) (by decide) hv.1 (nrng hv.2.1) (fun q => ?_) (fun q => ?_)
      · replace hv := hv.2.2.1 q
        refine sw_iconst (dX9_reflection.at 16 rfl) ?_
        exact sw_iret (dX9_reflection.at 17 rfl) rfl (Nat.le_refl _) (Nat.le_refl _) hv
      · replace hv := hv.2.2.2 q
        refine sw_aload_n (dX9_reflection.at 11 rfl) rfl rfl ?_
        refine sw_getR (dX9_reflection.at 12 rfl) fp_X9_44 (S_lt 49 (by decide)) (S_49 nw nx g) rfl rfl ?_
        refine sw_iload_n (dX9_reflection.at 13 rfl) rfl rfl ?_
        exact hv
    · replace hv := hv.2.2 q
      refine sw_bipush (dX9_reflection.at 5 rfl) (by decide) ?_
      exact sw_iret (dX9_reflection.at 6 rfl) rfl (Nat.le_refl _) (Nat.le_refl _) hv

set_option maxHeartbeats 4000000 in
theorem c_X9_reflection {G : GG} {j nw nx gn : Nat} {g : Nat → Sh} {c : Nat → Nat → Int} {post : Option AV → AM → Prop} {P : GD} {i : Int} (hM : ML c P) (hV : GV P) (p1 : -2147483648 ≤ i ∧ i < 2147483648) (K : ∀ c2 : Nat → Nat → Int, SC c c2 → post (some (vi (q_reflection P i))) (S nw nx g, 78 + gn, c2)) : SM G (j + 2) mX9_reflection [vr (49), vi (i)] (S nw nx g, 78 + gn, c) 0 0 post := by
  refine sm_of wX9_reflection rfl (Nat.le_of_ble_eq_true rfl) ?_
  have hN60 := GV_N hV
  have hR5 := GV_R hV
  by_cases hv : 0 < gN P ∧ 0 ≤ i
  · obtain ⟨i, rfl⟩ : ∃ n : Nat, i = (n : Int) := ⟨i.toNat, by omega⟩
    have e : q_reflection P ((i : Nat) : Int) = if i < gM P then ((gT P i : Nat) : Int) else (-1) := by
      rw [q_reflection, if_pos hv]
      simp only [Int.toNat_natCast]
    rw [e] at K
    have K1 : ∀ (z : Int) (c2 : Nat → Nat → Int), (SC c c2) → z = (if i < gM P then ((gT P i : Nat) : Int) else (-1)) → post (some (vi z)) (S nw nx g, 78 + gn, c2) := fun z c2 h e9 => e9 ▸ K c2 h
    have hm := hV.1.2.2.1
    refine g_X9_reflection_0n hM hV ?_
    refine ⟨fun q => ?_, fun q => ⟨?_, ⟨fun q => ⟨?_, ?_, ⟨fun q => ?_, fun q => ⟨?_, ?_⟩⟩⟩, fun q => ?_⟩⟩⟩
    all_goals first | omega | assumption | (exfalso; simp only [decide_eq_true_eq, decide_eq_false_iff_not] at *; omega) | exact K _ (by first | exact SC_rf | assumption | (refine SC_tr ?_ (by assumption); first | assumption | (refine SC_tr ?_ (by assumption); first | assumption | (refine SC_tr ?_ (by assumption); assumption)))) | (refine K1 _ _ (by first | exact SC_rf | assumption | (refine SC_tr ?_ (by assumption); first | assumption | (refine SC_tr ?_ (by assumption); first | assumption | (refine SC_tr ?_ (by assumption); assumption)))) ?_; first | rfl | (simp [bz, *]; done) | (split <;> first | rfl | omega))
  · have e : q_reflection P i = (-2) := by rw [q_reflection, if_neg hv]
    rw [e] at K
    have K1 : ∀ (z : Int) (c2 : Nat → Nat → Int), (SC c c2) → z = ((-2)) → post (some (vi z)) (S nw nx g, 78 + gn, c2) := fun z c2 h e9 => e9 ▸ K c2 h
    refine g_X9_reflection_0 hM hV ?_
    refine ⟨fun q => ?_, fun q => ⟨?_, ⟨fun q => ⟨?_, ?_, ⟨fun q => ?_, fun q => ?_⟩⟩, fun q => ?_⟩⟩⟩
    all_goals first | omega | assumption | (exfalso; simp only [decide_eq_true_eq, decide_eq_false_iff_not] at *; omega) | exact K _ (by first | exact SC_rf | assumption | (refine SC_tr ?_ (by assumption); first | assumption | (refine SC_tr ?_ (by assumption); first | assumption | (refine SC_tr ?_ (by assumption); assumption)))) | (refine K1 _ _ (by first | exact SC_rf | assumption | (refine SC_tr ?_ (by assumption); first | assumption | (refine SC_tr ?_ (by assumption); first | assumption | (refine SC_tr ?_ (by assumption); assumption)))) ?_; first | rfl | (simp [bz, *]; done) | (split <;> first | rfl | omega))

set_option maxHeartbeats 2000000 in
set_option maxRecDepth 20000 in
theorem g_X9_letter_0n {G : GG} {j nw nx gn : Nat} {g : Nat → Sh} {c : Nat → Nat → Int} {post : Option AV → AM → Prop} {x : Nat} {i : Nat} {P : GD} (hM : ML c P) (hV : GV P) (hC : GC P)  (hv : (-2147483648 ≤ ((x : Nat) : Int) ∧ ((x : Nat) : Int) < 2147483648) ∧ ((((decide (0 ≤ ((x : Nat) : Int) ∧ ((x : Nat) : Int) < (gN P : Int))) = false) → post (some (vi ((-2)))) (S nw nx g, 78 + gn, c)) ∧ (((decide (0 ≤ ((x : Nat) : Int) ∧ ((x : Nat) : Int) < (gN P : Int))) = true) → (i < 2147483648) ∧ (((0 ≤ ((i : Nat) : Int)) → (x < gN P) ∧ (∀ c_1 : Nat → Nat → Int, (SC c c_1 ∧ WH P c_1 x) → (x < gN P) ∧ ((i < 2147483648) ∧ (gL P x < 2147483648) ∧ (((gL P x ≤ i) → post (some (vi ((-1)))) (S nw nx g, 78 + gn, c_1)) ∧ ((¬ (gL P x ≤ i)) → (i < gL P x) ∧ (i < 14) ∧ (post (some (vi (((gLet P x i : Nat) : Int)))) (S nw nx g, 78 + gn, c_1))))))) ∧ ((¬ (0 ≤ ((i : Nat) : Int))) → post (some (vi ((-2)))) (S nw nx g, 78 + gn, c)))))) :
    SW G (j + 2) mX9_letter 0 [some (vr (49)), some (vi (((x : Nat) : Int))), some (vi (((i : Nat) : Int)))] [] (S nw nx g, 78 + gn, c) B0 post := by
  refine sw_aload_n (dX9_letter.at 0 rfl) rfl rfl ?_
  refine sw_iload_n (dX9_letter.at 1 rfl) rfl rfl ?_
  refine sw_callV (B' := B0) (As := [vi (((x : Nat) : Int))]) (mc := 0) (ms := 0) (dX9_letter.at 2 rfl) lk_X9_251 (S_lt 49 (by decide)) (S_49 nw nx g) rfl rfl (Nat.le_of_ble_eq_true rfl) rfl (Nat.le_refl _) (Nat.le_refl _) ?_
  refine c_X9_isElement (x := ((x : Nat) : Int)) (j := j + 0) hM hV hv.1 ?_
  replace hv := hv.2
  refine sw_if_eq (tgt := 12) (dX9_letter.at 3 rfl) (by decide) (bz_rng _) (fun q => ?_) (fun q => ?_)
  · replace hv := hv.1 (bz_0 q)
    refine sw_bipush (dX9_letter.at 6 rfl) (by decide) ?_
    exact sw_iret (dX9_letter.at 7 rfl) rfl (Nat.le_refl _) (Nat.le_refl _) hv
  · replace hv := hv.2 (bz_n0 q)
    refine sw_iload_n (dX9_letter.at 4 rfl) rfl rfl ?_
    refine sw_if_ge (tgt := 15) (dX9_letter.at 5 rfl) (by decide) (nrng hv.1) (fun q => ?_) (fun q => ?_)
    · replace hv := hv.2.1 q
      refine sw_aload_n (dX9_letter.at 8 rfl) rfl rfl ?_
      refine sw_iload_n (dX9_letter.at 9 rfl) rfl rfl ?_
      refine sw_callV (B' := B0) (As := [vi (((x : Nat) : Int))]) (mc := 0) (ms := 0) (dX9_letter.at 10 rfl) lk_X9_234 (S_lt 49 (by decide)) (S_49 nw nx g) rfl rfl (Nat.le_of_ble_eq_true rfl) rfl (Nat.le_refl _) (Nat.le_refl _) ?_
      refine c_X9_spells (x := x) (j := j + 1) hM hV hC hv.1 (fun c_1 h_1 => ?_)
      replace hv := hv.2 c_1 h_1
      refine sw_iload_n (dX9_letter.at 11 rfl) rfl rfl ?_
      refine sw_aload_n (dX9_letter.at 12 rfl) rfl rfl ?_
      refine sw_getR (dX9_letter.at 13 rfl) fp_X9_32 (S_lt 49 (by decide)) (S_49 nw nx g) rfl rfl ?_
      refine sw_iload_n (dX9_letter.at 14 rfl) rfl rfl ?_
      refine sw_ialdN x (w := ((gL P x : Nat) : Int)) (dX9_letter.at 15 rfl) (S_lt 56 (by decide)) (S_56 nw nx g) (by decide) (GV_lt hV hv.1) (ML_L (ML_SC hM (SC_tr SC_rf h_1.1)) hv.1) ?_
      replace hv := hv.2
      refine sw_icmpN_ge i (gL P x) (tgt := 39) (dX9_letter.at 16 rfl) (by decide) hv.1 hv.2.1 (fun q => ?_) (fun q => ?_)
      · replace hv := hv.2.2.1 q
        refine sw_iconst (dX9_letter.at 22 rfl) ?_
        exact sw_iret (dX9_letter.at 23 rfl) rfl (Nat.le_refl _) (Nat.le_refl _) hv
      · replace hv := hv.2.2.2 q
        refine sw_aload_n (dX9_letter.at 17 rfl) rfl rfl ?_
        refine sw_getR (dX9_letter.at 18 rfl) fp_X9_47 (S_lt 49 (by decide)) (S_49 nw nx g) rfl rfl ?_
        refine sw_iload_n (dX9_letter.at 19 rfl) rfl rfl ?_
        refine sw_ialdN i (w := ((gLet P x i : Nat) : Int)) (dX9_letter.at 20 rfl) (S_lt 61 (by decide)) (S_61 nw nx g) (by decide) hv.2.1 (h_1.2 _ hv.1) ?_
        replace hv := hv.2.2
        refine sw_goto (tgt := 40) (dX9_letter.at 21 rfl) (by decide) ?_
        exact sw_iret (dX9_letter.at 23 rfl) rfl (Nat.le_refl _) (Nat.le_refl _) hv
    · replace hv := hv.2.2 q
      refine sw_bipush (dX9_letter.at 6 rfl) (by decide) ?_
      exact sw_iret (dX9_letter.at 7 rfl) rfl (Nat.le_refl _) (Nat.le_refl _) hv

set_option maxHeartbeats 2000000 in
set_option maxRecDepth 20000 in
theorem g_X9_letter_0 {G : GG} {j nw nx gn : Nat} {g : Nat → Sh} {c : Nat → Nat → Int} {post : Option AV → AM → Prop} {x : Int} {i : Int} {P : GD} (hM : ML c P) (hV : GV P) (hC : GC P)  (hv : (-2147483648 ≤ x ∧ x < 2147483648) ∧ ((((decide (0 ≤ x ∧ x < (gN P : Int))) = false) → post (some (vi ((-2)))) (S nw nx g, 78 + gn, c)) ∧ (((decide (0 ≤ x ∧ x < (gN P : Int))) = true) → (-2147483648 ≤ i ∧ i < 2147483648) ∧ (((0 ≤ i) → SW G (j + 2) mX9_letter 17 [some (vr (49)), some (vi (x)), some (vi (i))] [vi (x), vr (49)] (S nw nx g, 78 + gn, c) B0 post) ∧ ((¬ (0 ≤ i)) → post (some (vi ((-2)))) (S nw nx g, 78 + gn, c)))))) :
    SW G (j + 2) mX9_letter 0 [some (vr (49)), some (vi (x)), some (vi (i))] [] (S nw nx g, 78 + gn, c) B0 post := by
  refine sw_aload_n (dX9_letter.at 0 rfl) rfl rfl ?_
  refine sw_iload_n (dX9_letter.at 1 rfl) rfl rfl ?_
  refine sw_callV (B' := B0) (As := [vi (x)]) (mc := 0) (ms := 0) (dX9_letter.at 2 rfl) lk_X9_251 (S_lt 49 (by decide)) (S_49 nw nx g) rfl rfl (Nat.le_of_ble_eq_true rfl) rfl (Nat.le_refl _) (Nat.le_refl _) ?_
  refine c_X9_isElement (x := x) (j := j + 0) hM hV hv.1 ?_
  replace hv := hv.2
  refine sw_if_eq (tgt := 12) (dX9_letter.at 3 rfl) (by decide) (bz_rng _) (fun q => ?_) (fun q => ?_)
  · replace hv := hv.1 (bz_0 q)
    refine sw_bipush (dX9_letter.at 6 rfl) (by decide) ?_
    exact sw_iret (dX9_letter.at 7 rfl) rfl (Nat.le_refl _) (Nat.le_refl _) hv
  · replace hv := hv.2 (bz_n0 q)
    refine sw_iload_n (dX9_letter.at 4 rfl) rfl rfl ?_
    refine sw_if_ge (tgt := 15) (dX9_letter.at 5 rfl) (by decide) hv.1 (fun q => ?_) (fun q => ?_)
    · replace hv := hv.2.1 q
      refine sw_aload_n (dX9_letter.at 8 rfl) rfl rfl ?_
      refine sw_iload_n (dX9_letter.at 9 rfl) rfl rfl ?_
      exact hv
    · replace hv := hv.2.2 q
      refine sw_bipush (dX9_letter.at 6 rfl) (by decide) ?_
      exact sw_iret (dX9_letter.at 7 rfl) rfl (Nat.le_refl _) (Nat.le_refl _) hv

set_option maxHeartbeats 4000000 in
theorem c_X9_letter {G : GG} {j nw nx gn : Nat} {g : Nat → Sh} {c : Nat → Nat → Int} {post : Option AV → AM → Prop} {P : GD} {x i : Int} (hM : ML c P) (hV : GV P) (hC : GC P) (p1 : -2147483648 ≤ x ∧ x < 2147483648) (p2 : -2147483648 ≤ i ∧ i < 2147483648) (K : ∀ c2 : Nat → Nat → Int, SC c c2 → post (some (vi (q_letter P x i))) (S nw nx g, 78 + gn, c2)) : SM G (j + 3) mX9_letter [vr (49), vi (x), vi (i)] (S nw nx g, 78 + gn, c) 0 0 post := by
  refine sm_of wX9_letter rfl (Nat.le_of_ble_eq_true rfl) ?_
  have hN60 := GV_N hV
  have hR5 := GV_R hV
  by_cases hv : 0 ≤ x ∧ x < (gN P : Int) ∧ 0 ≤ i
  · obtain ⟨x, rfl⟩ : ∃ n : Nat, x = (n : Int) := ⟨x.toNat, by omega⟩
    obtain ⟨i, rfl⟩ : ∃ n : Nat, i = (n : Int) := ⟨i.toNat, by omega⟩
    have e : q_letter P ((x : Nat) : Int) ((i : Nat) : Int) = if i < gL P x then ((gLet P x i : Nat) : Int) else (-1) := by
      rw [q_letter, if_pos hv]
      simp only [Int.toNat_natCast]
    rw [e] at K
    have K1 : ∀ (z : Int) (c2 : Nat → Nat → Int), (SC c c2) → z = (if i < gL P x then ((gLet P x i : Nat) : Int) else (-1)) → post (some (vi z)) (S nw nx g, 78 + gn, c2) := fun z c2 h e9 => e9 ▸ K c2 h
    have hx : x < gN P := by omega
    have fx := hV.2.2.1 x hx
    refine g_X9_letter_0n hM hV hC ?_
    refine ⟨?_, ⟨fun q => ?_, fun q => ⟨?_, ⟨fun q => ⟨?_, fun c_1 h_1 => ⟨?_, ⟨?_, ?_, ⟨fun q => ?_, fun q => ⟨?_, ?_, ?_⟩⟩⟩⟩⟩, fun q => ?_⟩⟩⟩⟩
    all_goals first | omega | assumption | (exfalso; simp only [decide_eq_true_eq, decide_eq_false_iff_not] at *; omega) | (refine K1 _ _ h_1.1 ?_; first | (rw [if_pos (by omega)]) | (rw [if_neg (by omega)])) | exact K _ (by first | exact SC_rf | assumption | (refine SC_tr ?_ (by assumption); first | assumption | (refine SC_tr ?_ (by assumption); first | assumption | (refine SC_tr ?_ (by assumption); assumption)))) | (refine K1 _ _ (by first | exact SC_rf | assumption | (refine SC_tr ?_ (by assumption); first | assumption | (refine SC_tr ?_ (by assumption); first | assumption | (refine SC_tr ?_ (by assumption); assumption)))) ?_; first | rfl | (simp [bz, *]; done) | (split <;> first | rfl | omega))
  · have e : q_letter P x i = (-2) := by rw [q_letter, if_neg hv]
    rw [e] at K
    have K1 : ∀ (z : Int) (c2 : Nat → Nat → Int), (SC c c2) → z = ((-2)) → post (some (vi z)) (S nw nx g, 78 + gn, c2) := fun z c2 h e9 => e9 ▸ K c2 h
    refine g_X9_letter_0 hM hV hC ?_
    refine ⟨?_, ⟨fun q => ?_, fun q => ⟨?_, ⟨fun q => ?_, fun q => ?_⟩⟩⟩⟩
    all_goals first | omega | assumption | (exfalso; simp only [decide_eq_true_eq, decide_eq_false_iff_not] at *; omega) | exact K _ (by first | exact SC_rf | assumption | (refine SC_tr ?_ (by assumption); first | assumption | (refine SC_tr ?_ (by assumption); first | assumption | (refine SC_tr ?_ (by assumption); assumption)))) | (refine K1 _ _ (by first | exact SC_rf | assumption | (refine SC_tr ?_ (by assumption); first | assumption | (refine SC_tr ?_ (by assumption); first | assumption | (refine SC_tr ?_ (by assumption); assumption)))) ?_; first | rfl | (simp [bz, *]; done) | (split <;> first | rfl | omega))

set_option maxHeartbeats 2000000 in
set_option maxRecDepth 20000 in
theorem g_X9_descents_0n {G : GG} {j nw nx gn : Nat} {g : Nat → Sh} {c : Nat → Nat → Int} {post : Option AV → AM → Prop} {x : Nat} {sd : Nat} {P : GD} (hM : ML c P) (hV : GV P) (hC : GC P)  (hv : (-2147483648 ≤ ((x : Nat) : Int) ∧ ((x : Nat) : Int) < 2147483648) ∧ ((((decide (0 ≤ ((x : Nat) : Int) ∧ ((x : Nat) : Int) < (gN P : Int))) = false) → post (some (vi ((-2)))) (S nw nx g, 78 + gn, c)) ∧ (((decide (0 ≤ ((x : Nat) : Int) ∧ ((x : Nat) : Int) < (gN P : Int))) = true) → (sd < 2147483648) ∧ ((-9223372036854775808 ≤ (((sd : Nat) : Int) : Int) ∧ (((sd : Nat) : Int) : Int) < 9223372036854775808) ∧ (-9223372036854775808 ≤ (0 : Int) ∧ (0 : Int) < 9223372036854775808) ∧ (-9223372036854775808 ≤ (1 : Int) ∧ (1 : Int) < 9223372036854775808) ∧ ((((decide (0 ≤ ((sd : Nat) : Int) ∧ ((sd : Nat) : Int) ≤ 1)) = false) → post (some (vi ((-2)))) (S nw nx g, 78 + gn, c)) ∧ (((decide (0 ≤ ((sd : Nat) : Int) ∧ ((sd : Nat) : Int) ≤ 1)) = true) → (x < gN P) ∧ (sd < 2) ∧ (post (some (vi (((dsc P x sd : Nat) : Int)))) (S nw nx g, 78 + gn, c)))))))) :
    SW G (j + 2) mX9_descents 0 [some (vr (49)), some (vi (((x : Nat) : Int))), some (vi (((sd : Nat) : Int)))] [] (S nw nx g, 78 + gn, c) B0 post := by
  refine sw_aload_n (dX9_descents.at 0 rfl) rfl rfl ?_
  refine sw_iload_n (dX9_descents.at 1 rfl) rfl rfl ?_
  refine sw_callV (B' := B0) (As := [vi (((x : Nat) : Int))]) (mc := 0) (ms := 0) (dX9_descents.at 2 rfl) lk_X9_251 (S_lt 49 (by decide)) (S_49 nw nx g) rfl rfl (Nat.le_of_ble_eq_true rfl) rfl (Nat.le_refl _) (Nat.le_refl _) ?_
  refine c_X9_isElement (x := ((x : Nat) : Int)) (j := j + 0) hM hV hv.1 ?_
  replace hv := hv.2
  refine sw_if_eq (tgt := 27) (dX9_descents.at 3 rfl) (by decide) (bz_rng _) (fun q => ?_) (fun q => ?_)
  · replace hv := hv.1 (bz_0 q)
    refine sw_bipush (dX9_descents.at 15 rfl) (by decide) ?_
    exact sw_iret (dX9_descents.at 16 rfl) rfl (Nat.le_refl _) (Nat.le_refl _) hv
  · replace hv := hv.2 (bz_n0 q)
    refine sw_iload_n (dX9_descents.at 4 rfl) rfl rfl ?_
    refine sw_i2l (dX9_descents.at 5 rfl) (nrng hv.1) ?_
    replace hv := hv.2
    refine sw_lconst (z := 0) (dX9_descents.at 6 rfl) (by decide) ?_
    refine sw_lconst (z := 1) (dX9_descents.at 7 rfl) (by decide) ?_
    refine sw_callS (post' := post) (B' := B0) (As := [vl (((sd : Nat) : Int)), vl (0), vl (1)]) (mc := 0) (ms := 0) (dX9_descents.at 8 rfl) lk_X9_104 rfl rfl (Nat.le_of_ble_eq_true rfl) rfl (Nat.le_refl _) (Nat.le_refl _) ?_
    refine c_X9_in (u := ((sd : Nat) : Int)) (lo := 0) (hi := 1) (j := j + 1) hv.1 hv.2.1 hv.2.2.1 ?_
    replace hv := hv.2.2.2
    refine sw_if_eq (tgt := 27) (dX9_descents.at 9 rfl) (by decide) (bz_rng _) (fun q => ?_) (fun q => ?_)
    · replace hv := hv.1 (bz_0 q)
      refine sw_bipush (dX9_descents.at 15 rfl) (by decide) ?_
      exact sw_iret (dX9_descents.at 16 rfl) rfl (Nat.le_refl _) (Nat.le_refl _) hv
    · replace hv := hv.2 (bz_n0 q)
      refine sw_aload_n (dX9_descents.at 10 rfl) rfl rfl ?_
      refine sw_iload_n (dX9_descents.at 11 rfl) rfl rfl ?_
      refine sw_iload_n (dX9_descents.at 12 rfl) rfl rfl ?_
      refine sw_callV (B' := B0) (As := [vi (((x : Nat) : Int)), vi (((sd : Nat) : Int))]) (mc := 0) (ms := 0) (dX9_descents.at 13 rfl) lk_X9_278 (S_lt 49 (by decide)) (S_49 nw nx g) rfl rfl (Nat.le_of_ble_eq_true rfl) rfl (Nat.le_refl _) (Nat.le_refl _) ?_
      refine c_X9_shorterBits (x := x) (sd := sd) (j := j + 0) hM hV hC hv.1 hv.2.1 ?_
      replace hv := hv.2.2
      refine sw_goto (tgt := 29) (dX9_descents.at 14 rfl) (by decide) ?_
      exact sw_iret (dX9_descents.at 16 rfl) rfl (Nat.le_refl _) (Nat.le_refl _) hv

set_option maxHeartbeats 2000000 in
set_option maxRecDepth 20000 in
theorem g_X9_descents_0 {G : GG} {j nw nx gn : Nat} {g : Nat → Sh} {c : Nat → Nat → Int} {post : Option AV → AM → Prop} {x : Int} {sd : Int} {P : GD} (hM : ML c P) (hV : GV P) (hC : GC P)  (hv : (-2147483648 ≤ x ∧ x < 2147483648) ∧ ((((decide (0 ≤ x ∧ x < (gN P : Int))) = false) → post (some (vi ((-2)))) (S nw nx g, 78 + gn, c)) ∧ (((decide (0 ≤ x ∧ x < (gN P : Int))) = true) → (-2147483648 ≤ sd ∧ sd < 2147483648) ∧ ((-9223372036854775808 ≤ (sd : Int) ∧ (sd : Int) < 9223372036854775808) ∧ (-9223372036854775808 ≤ (0 : Int) ∧ (0 : Int) < 9223372036854775808) ∧ (-9223372036854775808 ≤ (1 : Int) ∧ (1 : Int) < 9223372036854775808) ∧ ((((decide (0 ≤ sd ∧ sd ≤ 1)) = false) → post (some (vi ((-2)))) (S nw nx g, 78 + gn, c)) ∧ (((decide (0 ≤ sd ∧ sd ≤ 1)) = true) → SW G (j + 2) mX9_descents 21 [some (vr (49)), some (vi (x)), some (vi (sd))] [vi (sd), vi (x), vr (49)] (S nw nx g, 78 + gn, c) B0 post)))))) :
    SW G (j + 2) mX9_descents 0 [some (vr (49)), some (vi (x)), some (vi (sd))] [] (S nw nx g, 78 + gn, c) B0 post := by
  refine sw_aload_n (dX9_descents.at 0 rfl) rfl rfl ?_
  refine sw_iload_n (dX9_descents.at 1 rfl) rfl rfl ?_
  refine sw_callV (B' := B0) (As := [vi (x)]) (mc := 0) (ms := 0) (dX9_descents.at 2 rfl) lk_X9_251 (S_lt 49 (by decide)) (S_49 nw nx g) rfl rfl (Nat.le_of_ble_eq_true rfl) rfl (Nat.le_refl _) (Nat.le_refl _) ?_
  refine c_X9_isElement (x := x) (j := j + 0) hM hV hv.1 ?_
  replace hv := hv.2
  refine sw_if_eq (tgt := 27) (dX9_descents.at 3 rfl) (by decide) (bz_rng _) (fun q => ?_) (fun q => ?_)
  · replace hv := hv.1 (bz_0 q)
    refine sw_bipush (dX9_descents.at 15 rfl) (by decide) ?_
    exact sw_iret (dX9_descents.at 16 rfl) rfl (Nat.le_refl _) (Nat.le_refl _) hv
  · replace hv := hv.2 (bz_n0 q)
    refine sw_iload_n (dX9_descents.at 4 rfl) rfl rfl ?_
    refine sw_i2l (dX9_descents.at 5 rfl) hv.1 ?_
    replace hv := hv.2
    refine sw_lconst (z := 0) (dX9_descents.at 6 rfl) (by decide) ?_
    refine sw_lconst (z := 1) (dX9_descents.at 7 rfl) (by decide) ?_
    refine sw_callS (post' := post) (B' := B0) (As := [vl (sd), vl (0), vl (1)]) (mc := 0) (ms := 0) (dX9_descents.at 8 rfl) lk_X9_104 rfl rfl (Nat.le_of_ble_eq_true rfl) rfl (Nat.le_refl _) (Nat.le_refl _) ?_
    refine c_X9_in (u := sd) (lo := 0) (hi := 1) (j := j + 1) hv.1 hv.2.1 hv.2.2.1 ?_
    replace hv := hv.2.2.2
    refine sw_if_eq (tgt := 27) (dX9_descents.at 9 rfl) (by decide) (bz_rng _) (fun q => ?_) (fun q => ?_)
    · replace hv := hv.1 (bz_0 q)
      refine sw_bipush (dX9_descents.at 15 rfl) (by decide) ?_
      exact sw_iret (dX9_descents.at 16 rfl) rfl (Nat.le_refl _) (Nat.le_refl _) hv
    · replace hv := hv.2 (bz_n0 q)
      refine sw_aload_n (dX9_descents.at 10 rfl) rfl rfl ?_
      refine sw_iload_n (dX9_descents.at 11 rfl) rfl rfl ?_
      refine sw_iload_n (dX9_descents.at 12 rfl) rfl rfl ?_
      exact hv

set_option maxHeartbeats 4000000 in
theorem c_X9_descents {G : GG} {j nw nx gn : Nat} {g : Nat → Sh} {c : Nat → Nat → Int} {post : Option AV → AM → Prop} {P : GD} {x sd : Int} (hM : ML c P) (hV : GV P) (hC : GC P) (p1 : -2147483648 ≤ x ∧ x < 2147483648) (p2 : -2147483648 ≤ sd ∧ sd < 2147483648) (K : ∀ c2 : Nat → Nat → Int, SC c c2 → post (some (vi (q_descents P x sd))) (S nw nx g, 78 + gn, c2)) : SM G (j + 3) mX9_descents [vr (49), vi (x), vi (sd)] (S nw nx g, 78 + gn, c) 0 0 post := by
  refine sm_of wX9_descents rfl (Nat.le_of_ble_eq_true rfl) ?_
  have hN60 := GV_N hV
  have hR5 := GV_R hV
  by_cases hv : 0 ≤ x ∧ x < (gN P : Int) ∧ 0 ≤ sd ∧ sd < 2
  · obtain ⟨x, rfl⟩ : ∃ n : Nat, x = (n : Int) := ⟨x.toNat, by omega⟩
    obtain ⟨sd, rfl⟩ : ∃ n : Nat, sd = (n : Int) := ⟨sd.toNat, by omega⟩
    have e : q_descents P ((x : Nat) : Int) ((sd : Nat) : Int) = ((if sd = 0 then gF P x else gE P x : Nat) : Int) := by
      rw [q_descents, if_pos hv]
      simp only [Int.toNat_natCast]
    rw [e] at K
    have K1 : ∀ (z : Int) (c2 : Nat → Nat → Int), (SC c c2) → z = (((if sd = 0 then gF P x else gE P x : Nat) : Int)) → post (some (vi z)) (S nw nx g, 78 + gn, c2) := fun z c2 h e9 => e9 ▸ K c2 h
    refine g_X9_descents_0n hM hV hC ?_
    refine ⟨?_, ⟨fun q => ?_, fun q => ⟨?_, ⟨?_, ?_, ?_, ⟨fun q => ?_, fun q => ⟨?_, ?_, ?_⟩⟩⟩⟩⟩⟩
    all_goals first | omega | assumption | (exfalso; simp only [decide_eq_true_eq, decide_eq_false_iff_not] at *; omega) | exact K _ (by first | exact SC_rf | assumption | (refine SC_tr ?_ (by assumption); first | assumption | (refine SC_tr ?_ (by assumption); first | assumption | (refine SC_tr ?_ (by assumption); assumption)))) | (refine K1 _ _ (by first | exact SC_rf | assumption | (refine SC_tr ?_ (by assumption); first | assumption | (refine SC_tr ?_ (by assumption); first | assumption | (refine SC_tr ?_ (by assumption); assumption)))) ?_; first | rfl | (simp [bz, *]; done) | (split <;> first | rfl | omega))
  · have e : q_descents P x sd = (-2) := by rw [q_descents, if_neg hv]
    rw [e] at K
    have K1 : ∀ (z : Int) (c2 : Nat → Nat → Int), (SC c c2) → z = ((-2)) → post (some (vi z)) (S nw nx g, 78 + gn, c2) := fun z c2 h e9 => e9 ▸ K c2 h
    refine g_X9_descents_0 hM hV hC ?_
    refine ⟨?_, ⟨fun q => ?_, fun q => ⟨?_, ⟨?_, ?_, ?_, ⟨fun q => ?_, fun q => ?_⟩⟩⟩⟩⟩
    all_goals first | omega | assumption | (exfalso; simp only [decide_eq_true_eq, decide_eq_false_iff_not] at *; omega) | exact K _ (by first | exact SC_rf | assumption | (refine SC_tr ?_ (by assumption); first | assumption | (refine SC_tr ?_ (by assumption); first | assumption | (refine SC_tr ?_ (by assumption); assumption)))) | (refine K1 _ _ (by first | exact SC_rf | assumption | (refine SC_tr ?_ (by assumption); first | assumption | (refine SC_tr ?_ (by assumption); first | assumption | (refine SC_tr ?_ (by assumption); assumption)))) ?_; first | rfl | (simp [bz, *]; done) | (split <;> first | rfl | omega))

theorem cntU_z (p : Nat → Bool) (n : Nat) : cntU p (n + 1) = cntU p n + (if p n then 1 else 0) := by rw [cntU]; split <;> rfl
/-- how many of the k from z on -/
def cntD (p : Nat → Bool) : Nat → Nat → Nat
  | 0, _ => 0
  | k + 1, z => (if p z then 1 else 0) + cntD p k (z + 1)
theorem cntD_add (p : Nat → Bool) : ∀ k z, cntU p z + cntD p k z = cntU p (z + k) := by
  intro k
  induction k with
  | zero => intro z; rfl
  | succ k ih =>
    intro z
    rw [cntD, ← Nat.add_assoc, ← cntU_z, ih, show z + 1 + k = z + (k + 1) by omega]
theorem cntD_U (p : Nat → Bool) (n : Nat) : cntD p n 0 = cntU p n := by
  have := cntD_add p n 0
  rw [Nat.zero_add] at this
  rw [← this]; simp [cntU]
/-- the same for sets of bits -/
def bitD (p : Nat → Bool) : Nat → Nat → Nat → Nat
  | 0, _, a => a
  | k + 1, z, a => bitD p k (z + 1) (a ||| (if p z then 1 * 2 ^ z else 0))
theorem bitD_add (p : Nat → Bool) : ∀ k z, bitD p k z (bitsU p z) = bitsU p (z + k) := by
  intro k
  induction k with
  | zero => intro z; rfl
  | succ k ih =>
    intro z
    rw [bitD, show z + (k + 1) = z + 1 + k by omega, ← ih (z + 1)]
    congr 1
    rw [bitsU]
    split
    · rfl
    · simp
theorem bitD_U (p : Nat → Bool) (n : Nat) : bitD p n 0 0 = bitsU p n := by
  have := bitD_add p n 0
  rw [Nat.zero_add] at this
  exact this
set_option maxHeartbeats 2000000 in
set_option maxRecDepth 20000 in
theorem g_X9_layers_18 {G : GG} {j nw nx gn : Nat} {g : Nat → Sh} {c : Nat → Nat → Int} {post : Option AV → AM → Prop} {n0 : Nat} {P : GD} {z : Nat} {a : Nat} (hM : ML c P) (hV : GV P) (hC : GC P)  (hv : (z < 2147483648) ∧ (gN P < 2147483648) ∧ (((gN P ≤ z) → post (some (vi (((a : Nat) : Int)))) (S nw nx g, 78 + gn, c)) ∧ ((¬ (gN P ≤ z)) → (z < gN P) ∧ ((gL P z < 2147483648) ∧ (n0 < 2147483648) ∧ (((gL P z ≠ n0) → SW G (j + 1) mX9_layers 18 [some (vr (49)), some (vi (((n0 : Nat) : Int))), some (vi (((a + 0 : Nat) : Int))), some (vi (((z + 1 : Nat) : Int)))] [] (S nw nx g, 78 + gn, c) B0 post) ∧ ((gL P z = n0) → SW G (j + 1) mX9_layers 18 [some (vr (49)), some (vi (((n0 : Nat) : Int))), some (vi (((a + 1 : Nat) : Int))), some (vi (((z + 1 : Nat) : Int)))] [] (S nw nx g, 78 + gn, c) B0 post)))))) :
    SW G (j + 1) mX9_layers 18 [some (vr (49)), some (vi (((n0 : Nat) : Int))), some (vi (((a : Nat) : Int))), some (vi (((z : Nat) : Int)))] [] (S nw nx g, 78 + gn, c) B0 post := by
  refine sw_iload_n (dX9_layers.at 11 rfl) rfl rfl ?_
  refine sw_aload_n (dX9_layers.at 12 rfl) rfl rfl ?_
  refine sw_getIE (w := ((gN P : Nat) : Int)) (dX9_layers.at 13 rfl) fp_X9_196 (S_lt 49 (by decide)) (S_49 nw nx g) rfl hM.1.2.1 ?_
  refine sw_icmpN_ge z (gN P) (tgt := 50) (dX9_layers.at 14 rfl) (by decide) hv.1 hv.2.1 (fun q => ?_) (fun q => ?_)
  · replace hv := hv.2.2.1 q
    refine sw_iload_n (dX9_layers.at 29 rfl) rfl rfl ?_
    exact sw_iret (dX9_layers.at 30 rfl) rfl (Nat.le_refl _) (Nat.le_refl _) hv
  · replace hv := hv.2.2.2 q
    refine sw_iload_n (dX9_layers.at 15 rfl) rfl rfl ?_
    refine sw_aload_n (dX9_layers.at 16 rfl) rfl rfl ?_
    refine sw_getR (dX9_layers.at 17 rfl) fp_X9_32 (S_lt 49 (by decide)) (S_49 nw nx g) rfl rfl ?_
    refine sw_iload_n (dX9_layers.at 18 rfl) rfl rfl ?_
    refine sw_ialdN z (w := ((gL P z : Nat) : Int)) (dX9_layers.at 19 rfl) (S_lt 56 (by decide)) (S_56 nw nx g) (by decide) (GV_lt hV hv.1) (ML_L hM hv.1) ?_
    replace hv := hv.2
    refine sw_iload_n (dX9_layers.at 20 rfl) rfl rfl ?_
    refine sw_icmpN_ne (gL P z) n0 (tgt := 41) (dX9_layers.at 21 rfl) (by decide) hv.1 hv.2.1 (fun q => ?_) (fun q => ?_)
    · replace hv := hv.2.2.1 q
      refine sw_iconst (dX9_layers.at 24 rfl) ?_
      refine sw_iadd (dX9_layers.at 25 rfl) ?_
      refine sw_topI (y := ((a + 0 : Nat) : Int)) (by first | rfl | (congr 1)) ?_
      refine sw_istore_n (lo' := [some (vr (49)), some (vi (((n0 : Nat) : Int))), some (vi (((a + 0 : Nat) : Int))), some (vi (((z : Nat) : Int)))]) (dX9_layers.at 26 rfl) rfl (by decide) rfl ?_
      refine sw_iinc (lo' := [some (vr (49)), some (vi (((n0 : Nat) : Int))), some (vi (((a + 0 : Nat) : Int))), some (vi (((z + 1 : Nat) : Int)))]) (dX9_layers.at 27 rfl) rfl (by decide) rfl ?_
      refine sw_goto (tgt := 18) (dX9_layers.at 28 rfl) (by decide) ?_
      exact hv
    · replace hv := hv.2.2.2 q
      refine sw_iconst (dX9_layers.at 22 rfl) ?_
      refine sw_goto (tgt := 42) (dX9_layers.at 23 rfl) (by decide) ?_
      refine sw_iadd (dX9_layers.at 25 rfl) ?_
      refine sw_topI (y := ((a + 1 : Nat) : Int)) (by first | rfl | (congr 1)) ?_
      refine sw_istore_n (lo' := [some (vr (49)), some (vi (((n0 : Nat) : Int))), some (vi (((a + 1 : Nat) : Int))), some (vi (((z : Nat) : Int)))]) (dX9_layers.at 26 rfl) rfl (by decide) rfl ?_
      refine sw_iinc (lo' := [some (vr (49)), some (vi (((n0 : Nat) : Int))), some (vi (((a + 1 : Nat) : Int))), some (vi (((z + 1 : Nat) : Int)))]) (dX9_layers.at 27 rfl) rfl (by decide) rfl ?_
      refine sw_goto (tgt := 18) (dX9_layers.at 28 rfl) (by decide) ?_
      exact hv

set_option maxHeartbeats 4000000 in
theorem lp_X9_layers_18 {G : GG} {j nw nx gn : Nat} {g : Nat → Sh} {c : Nat → Nat → Int} {post : Option AV → AM → Prop} {P : GD} {n0 : Nat} (hM : ML c P) (hV : GV P) (hC : GC P) (hq : n0 < 2147483648) : ∀ (k : Nat) (z : Nat) (a : Nat) (d : Nat → Nat → Int), z + k = gN P → SC c d → (∀ c2 : Nat → Nat → Int, SC c c2 → post (some (vi (((a + cntD (pLay P n0) k z : Nat) : Int)))) (S nw nx g, 78 + gn, c2)) → SW G (j + 1) mX9_layers 18 [some (vr (49)), some (vi (((n0 : Nat) : Int))), some (vi (((a : Nat) : Int))), some (vi (((z : Nat) : Int)))] [] (S nw nx g, 78 + gn, d) B0 post := by
  intro k
  induction k with
  | zero =>
    intro z a d hrel  hd K
    have h60 := GV_N hV
    have l9 := fun h => (hV.2.2.1 z h).1
    simp only [cntD, pLay] at K
    refine g_X9_layers_18 (c := d) (ML_SC hM hd) hV hC ?_
    refine ⟨?_, ?_, ⟨fun q => ?_, fun q => ⟨?_, ⟨?_, ?_, ⟨fun q => ?_, fun q => ?_⟩⟩⟩⟩⟩
    all_goals first | omega | (exfalso; omega) | (have := l9 (by omega); omega) | exact K _ (by first | exact SC_rf | assumption | (refine SC_tr ?_ (by assumption); first | assumption | (refine SC_tr ?_ (by assumption); first | assumption | (refine SC_tr ?_ (by assumption); assumption)))) | exact ih _ _ _ (by omega)  (by first | exact SC_rf | assumption | (refine SC_tr ?_ (by assumption); first | assumption | (refine SC_tr ?_ (by assumption); first | assumption | (refine SC_tr ?_ (by assumption); assumption)))) K | (simp only [*, if_true, if_false, ite_true, ite_false, Bool.false_eq_true, and_true, true_and, and_false, false_and, and_self, or_true, true_or, or_false, false_or, Bool.and_true, Bool.and_false, Bool.true_and, Bool.false_and, decide_true, decide_false, eq_self, not_true_eq_false, not_false_eq_true, ne_eq, reduceCtorEq, Nat.zero_add, Nat.add_zero, Nat.or_zero, ← Nat.add_assoc] at K; first | exact K _ (by first | exact SC_rf | assumption | (refine SC_tr ?_ (by assumption); first | assumption | (refine SC_tr ?_ (by assumption); first | assumption | (refine SC_tr ?_ (by assumption); assumption)))) | exact ih _ _ _ (by omega)  (by first | exact SC_rf | assumption | (refine SC_tr ?_ (by assumption); first | assumption | (refine SC_tr ?_ (by assumption); first | assumption | (refine SC_tr ?_ (by assumption); assumption)))) K)
  | succ k ih =>
    intro z a d hrel  hd K
    have h60 := GV_N hV
    have l9 := fun h => (hV.2.2.1 z h).1
    simp only [cntD, pLay] at K
    refine g_X9_layers_18 (c := d) (ML_SC hM hd) hV hC ?_
    refine ⟨?_, ?_, ⟨fun q => ?_, fun q => ⟨?_, ⟨?_, ?_, ⟨fun q => ?_, fun q => ?_⟩⟩⟩⟩⟩
    all_goals first | omega | assumption | (exfalso; omega) | (have := l9 (by omega); omega) | (simp only [*, if_true, if_false, ite_true, ite_false, Bool.false_eq_true, and_true, true_and, and_false, false_and, and_self, or_true, true_or, or_false, false_or, Bool.and_true, Bool.and_false, Bool.true_and, Bool.false_and, decide_true, decide_false, eq_self, not_true_eq_false, not_false_eq_true, ne_eq, reduceCtorEq, Nat.zero_add, Nat.add_zero, Nat.or_zero, ← Nat.add_assoc] at K; first | exact K _ (by first | exact SC_rf | assumption | (refine SC_tr ?_ (by assumption); first | assumption | (refine SC_tr ?_ (by assumption); first | assumption | (refine SC_tr ?_ (by assumption); assumption)))) | exact ih _ _ _ (by omega)  (by first | exact SC_rf | assumption | (refine SC_tr ?_ (by assumption); first | assumption | (refine SC_tr ?_ (by assumption); first | assumption | (refine SC_tr ?_ (by assumption); assumption)))) K) | exact K _ (by first | exact SC_rf | assumption | (refine SC_tr ?_ (by assumption); first | assumption | (refine SC_tr ?_ (by assumption); first | assumption | (refine SC_tr ?_ (by assumption); assumption)))) | exact ih _ _ _ (by omega)  (by first | exact SC_rf | assumption | (refine SC_tr ?_ (by assumption); first | assumption | (refine SC_tr ?_ (by assumption); first | assumption | (refine SC_tr ?_ (by assumption); assumption)))) K

set_option maxHeartbeats 2000000 in
set_option maxRecDepth 20000 in
theorem g_X9_layers_0n {G : GG} {j nw nx gn : Nat} {g : Nat → Sh} {c : Nat → Nat → Int} {post : Option AV → AM → Prop} {n0 : Nat} {P : GD} (hM : ML c P) (hV : GV P) (hC : GC P)  (hv : (((decide (0 < gN P)) = false) → post (some (vi ((-2)))) (S nw nx g, 78 + gn, c)) ∧ (((decide (0 < gN P)) = true) → (n0 < 2147483648) ∧ (((0 ≤ ((n0 : Nat) : Int)) → SW G (j + 1) mX9_layers 18 [some (vr (49)), some (vi (((n0 : Nat) : Int))), some (vi (0)), some (vi (0))] [] (S nw nx g, 78 + gn, c) B0 post) ∧ ((¬ (0 ≤ ((n0 : Nat) : Int))) → post (some (vi ((-2)))) (S nw nx g, 78 + gn, c))))) :
    SW G (j + 1) mX9_layers 0 [some (vr (49)), some (vi (((n0 : Nat) : Int))), none, none] [] (S nw nx g, 78 + gn, c) B0 post := by
  refine sw_aload_n (dX9_layers.at 0 rfl) rfl rfl ?_
  refine sw_callV (B' := B0) (As := []) (mc := 0) (ms := 0) (dX9_layers.at 1 rfl) lk_X9_248 (S_lt 49 (by decide)) (S_49 nw nx g) rfl rfl (Nat.le_of_ble_eq_true rfl) rfl (Nat.le_refl _) (Nat.le_refl _) ?_
  refine c_X9_is  (j := j + 0) hM hV ?_
  refine sw_if_eq (tgt := 11) (dX9_layers.at 2 rfl) (by decide) (bz_rng _) (fun q => ?_) (fun q => ?_)
  · replace hv := hv.1 (bz_0 q)
    refine sw_bipush (dX9_layers.at 5 rfl) (by decide) ?_
    exact sw_iret (dX9_layers.at 6 rfl) rfl (Nat.le_refl _) (Nat.le_refl _) hv
  · replace hv := hv.2 (bz_n0 q)
    refine sw_iload_n (dX9_layers.at 3 rfl) rfl rfl ?_
    refine sw_if_ge (tgt := 14) (dX9_layers.at 4 rfl) (by decide) (nrng hv.1) (fun q => ?_) (fun q => ?_)
    · replace hv := hv.2.1 q
      refine sw_iconst (dX9_layers.at 7 rfl) ?_
      refine sw_istore_n (lo' := [some (vr (49)), some (vi (((n0 : Nat) : Int))), some (vi (0)), none]) (dX9_layers.at 8 rfl) rfl (by decide) rfl ?_
      refine sw_iconst (dX9_layers.at 9 rfl) ?_
      refine sw_istore_n (lo' := [some (vr (49)), some (vi (((n0 : Nat) : Int))), some (vi (0)), some (vi (0))]) (dX9_layers.at 10 rfl) rfl (by decide) rfl ?_
      exact hv
    · replace hv := hv.2.2 q
      refine sw_bipush (dX9_layers.at 5 rfl) (by decide) ?_
      exact sw_iret (dX9_layers.at 6 rfl) rfl (Nat.le_refl _) (Nat.le_refl _) hv

set_option maxHeartbeats 2000000 in
set_option maxRecDepth 20000 in
theorem g_X9_layers_0 {G : GG} {j nw nx gn : Nat} {g : Nat → Sh} {c : Nat → Nat → Int} {post : Option AV → AM → Prop} {n0 : Int} {P : GD} (hM : ML c P) (hV : GV P) (hC : GC P)  (hv : (((decide (0 < gN P)) = false) → post (some (vi ((-2)))) (S nw nx g, 78 + gn, c)) ∧ (((decide (0 < gN P)) = true) → (-2147483648 ≤ n0 ∧ n0 < 2147483648) ∧ (((0 ≤ n0) → SW G (j + 1) mX9_layers 18 [some (vr (49)), some (vi (n0)), some (vi (0)), some (vi (0))] [] (S nw nx g, 78 + gn, c) B0 post) ∧ ((¬ (0 ≤ n0)) → post (some (vi ((-2)))) (S nw nx g, 78 + gn, c))))) :
    SW G (j + 1) mX9_layers 0 [some (vr (49)), some (vi (n0)), none, none] [] (S nw nx g, 78 + gn, c) B0 post := by
  refine sw_aload_n (dX9_layers.at 0 rfl) rfl rfl ?_
  refine sw_callV (B' := B0) (As := []) (mc := 0) (ms := 0) (dX9_layers.at 1 rfl) lk_X9_248 (S_lt 49 (by decide)) (S_49 nw nx g) rfl rfl (Nat.le_of_ble_eq_true rfl) rfl (Nat.le_refl _) (Nat.le_refl _) ?_
  refine c_X9_is  (j := j + 0) hM hV ?_
  refine sw_if_eq (tgt := 11) (dX9_layers.at 2 rfl) (by decide) (bz_rng _) (fun q => ?_) (fun q => ?_)
  · replace hv := hv.1 (bz_0 q)
    refine sw_bipush (dX9_layers.at 5 rfl) (by decide) ?_
    exact sw_iret (dX9_layers.at 6 rfl) rfl (Nat.le_refl _) (Nat.le_refl _) hv
  · replace hv := hv.2 (bz_n0 q)
    refine sw_iload_n (dX9_layers.at 3 rfl) rfl rfl ?_
    refine sw_if_ge (tgt := 14) (dX9_layers.at 4 rfl) (by decide) hv.1 (fun q => ?_) (fun q => ?_)
    · replace hv := hv.2.1 q
      refine sw_iconst (dX9_layers.at 7 rfl) ?_
      refine sw_istore_n (lo' := [some (vr (49)), some (vi (n0)), some (vi (0)), none]) (dX9_layers.at 8 rfl) rfl (by decide) rfl ?_
      refine sw_iconst (dX9_layers.at 9 rfl) ?_
      refine sw_istore_n (lo' := [some (vr (49)), some (vi (n0)), some (vi (0)), some (vi (0))]) (dX9_layers.at 10 rfl) rfl (by decide) rfl ?_
      exact hv
    · replace hv := hv.2.2 q
      refine sw_bipush (dX9_layers.at 5 rfl) (by decide) ?_
      exact sw_iret (dX9_layers.at 6 rfl) rfl (Nat.le_refl _) (Nat.le_refl _) hv

set_option maxHeartbeats 4000000 in
theorem c_X9_layers {G : GG} {j nw nx gn : Nat} {g : Nat → Sh} {c : Nat → Nat → Int} {post : Option AV → AM → Prop} {P : GD} {n0 : Int} (hM : ML c P) (hV : GV P) (hC : GC P) (p1 : -2147483648 ≤ n0 ∧ n0 < 2147483648) (K : ∀ c2 : Nat → Nat → Int, SC c c2 → post (some (vi (q_layers P n0))) (S nw nx g, 78 + gn, c2)) : SM G (j + 2) mX9_layers [vr (49), vi (n0)] (S nw nx g, 78 + gn, c) 0 0 post := by
  refine sm_of wX9_layers rfl (Nat.le_of_ble_eq_true rfl) ?_
  have hN60 := GV_N hV
  have hR5 := GV_R hV
  by_cases hv : 0 < gN P ∧ 0 ≤ n0
  · obtain ⟨n0, rfl⟩ : ∃ n : Nat, n0 = (n : Int) := ⟨n0.toNat, by omega⟩
    have e : q_layers P ((n0 : Nat) : Int) = ((cntU (pLay P n0) (gN P) : Nat) : Int) := by
      rw [q_layers, if_pos hv]
      simp only [Int.toNat_natCast]
    rw [e] at K
    have K1 : ∀ (z : Int) (c2 : Nat → Nat → Int), (SC c c2) → z = (((cntU (pLay P n0) (gN P) : Nat) : Int)) → post (some (vi z)) (S nw nx g, 78 + gn, c2) := fun z c2 h e9 => e9 ▸ K c2 h
    refine g_X9_layers_0n hM hV hC ?_
    refine ⟨fun q => ?_, fun q => ⟨?_, ⟨fun q => ?_, fun q => ?_⟩⟩⟩
    all_goals first | omega | assumption | (exfalso; simp only [decide_eq_true_eq, decide_eq_false_iff_not] at *; omega) | exact lp_X9_layers_18 hM hV hC (by omega) (gN P) 0 0 c (by omega) SC_rf (by simpa only [cntD_U, Nat.zero_add] using K) | exact K _ (by first | exact SC_rf | assumption | (refine SC_tr ?_ (by assumption); first | assumption | (refine SC_tr ?_ (by assumption); first | assumption | (refine SC_tr ?_ (by assumption); assumption)))) | (refine K1 _ _ (by first | exact SC_rf | assumption | (refine SC_tr ?_ (by assumption); first | assumption | (refine SC_tr ?_ (by assumption); first | assumption | (refine SC_tr ?_ (by assumption); assumption)))) ?_; first | rfl | (simp [bz, *]; done) | (split <;> first | rfl | omega))
  · have e : q_layers P n0 = (-2) := by rw [q_layers, if_neg hv]
    rw [e] at K
    have K1 : ∀ (z : Int) (c2 : Nat → Nat → Int), (SC c c2) → z = ((-2)) → post (some (vi z)) (S nw nx g, 78 + gn, c2) := fun z c2 h e9 => e9 ▸ K c2 h
    refine g_X9_layers_0 hM hV hC ?_
    refine ⟨fun q => ?_, fun q => ⟨?_, ⟨fun q => ?_, fun q => ?_⟩⟩⟩
    all_goals first | omega | assumption | (exfalso; simp only [decide_eq_true_eq, decide_eq_false_iff_not] at *; omega) | exact K _ (by first | exact SC_rf | assumption | (refine SC_tr ?_ (by assumption); first | assumption | (refine SC_tr ?_ (by assumption); first | assumption | (refine SC_tr ?_ (by assumption); assumption)))) | (refine K1 _ _ (by first | exact SC_rf | assumption | (refine SC_tr ?_ (by assumption); first | assumption | (refine SC_tr ?_ (by assumption); first | assumption | (refine SC_tr ?_ (by assumption); assumption)))) ?_; first | rfl | (simp [bz, *]; done) | (split <;> first | rfl | omega))

set_option maxHeartbeats 2000000 in
set_option maxRecDepth 20000 in
theorem g_X9_sided_24 {G : GG} {j nw nx gn : Nat} {g : Nat → Sh} {c : Nat → Nat → Int} {post : Option AV → AM → Prop} {s : Nat} {t : Nat} {P : GD} {z : Nat} {a : Nat} (hM : ML c P) (hV : GV P) (hC : GC P)  (hv : (z < 2147483648) ∧ (gN P < 2147483648) ∧ (((gN P ≤ z) → post (some (vi (((a : Nat) : Int)))) (S nw nx g, 78 + gn, c)) ∧ ((¬ (gN P ≤ z)) → (z < gN P) ∧ (0 < 2) ∧ ((dsc P z 0 < 2147483648) ∧ (s < 2147483648) ∧ (((dsc P z 0 ≠ s) → SW G (j + 2) mX9_sided 24 [some (vr (49)), some (vi (((s : Nat) : Int))), some (vi (((t : Nat) : Int))), some (vi (((a + 0 : Nat) : Int))), some (vi (((z + 1 : Nat) : Int)))] [] (S nw nx g, 78 + gn, c) B0 post) ∧ ((dsc P z 0 = s) → (z < gN P) ∧ (1 < 2) ∧ ((dsc P z 1 < 2147483648) ∧ (t < 2147483648) ∧ (((dsc P z 1 ≠ t) → SW G (j + 2) mX9_sided 24 [some (vr (49)), some (vi (((s : Nat) : Int))), some (vi (((t : Nat) : Int))), some (vi (((a + 0 : Nat) : Int))), some (vi (((z + 1 : Nat) : Int)))] [] (S nw nx g, 78 + gn, c) B0 post) ∧ ((dsc P z 1 = t) → SW G (j + 2) mX9_sided 24 [some (vr (49)), some (vi (((s : Nat) : Int))), some (vi (((t : Nat) : Int))), some (vi (((a + 1 : Nat) : Int))), some (vi (((z + 1 : Nat) : Int)))] [] (S nw nx g, 78 + gn, c) B0 post))))))))) :
    SW G (j + 2) mX9_sided 24 [some (vr (49)), some (vi (((s : Nat) : Int))), some (vi (((t : Nat) : Int))), some (vi (((a : Nat) : Int))), some (vi (((z : Nat) : Int)))] [] (S nw nx g, 78 + gn, c) B0 post := by
  refine sw_iload (dX9_sided.at 14 rfl) rfl ?_
  refine sw_aload_n (dX9_sided.at 15 rfl) rfl rfl ?_
  refine sw_getIE (w := ((gN P : Nat) : Int)) (dX9_sided.at 16 rfl) fp_X9_196 (S_lt 49 (by decide)) (S_49 nw nx g) rfl hM.1.2.1 ?_
  refine sw_icmpN_ge z (gN P) (tgt := 69) (dX9_sided.at 17 rfl) (by decide) hv.1 hv.2.1 (fun q => ?_) (fun q => ?_)
  · replace hv := hv.2.2.1 q
    refine sw_iload_n (dX9_sided.at 38 rfl) rfl rfl ?_
    exact sw_iret (dX9_sided.at 39 rfl) rfl (Nat.le_refl _) (Nat.le_refl _) hv
  · replace hv := hv.2.2.2 q
    refine sw_iload_n (dX9_sided.at 18 rfl) rfl rfl ?_
    refine sw_aload_n (dX9_sided.at 19 rfl) rfl rfl ?_
    refine sw_iload (dX9_sided.at 20 rfl) rfl ?_
    refine sw_iconst (dX9_sided.at 21 rfl) ?_
    refine sw_callV (B' := B0) (As := [vi (((z : Nat) : Int)), vi (0)]) (mc := 0) (ms := 0) (dX9_sided.at 22 rfl) lk_X9_278 (S_lt 49 (by decide)) (S_49 nw nx g) rfl rfl (Nat.le_of_ble_eq_true rfl) rfl (Nat.le_refl _) (Nat.le_refl _) ?_
    refine c_X9_shorterBits (x := z) (sd := 0) (j := j + 0) hM hV hC hv.1 hv.2.1 ?_
    replace hv := hv.2.2
    refine sw_iload_n (dX9_sided.at 23 rfl) rfl rfl ?_
    refine sw_icmpN_ne (dsc P z 0) s (tgt := 60) (dX9_sided.at 24 rfl) (by decide) hv.1 hv.2.1 (fun q => ?_) (fun q => ?_)
    · replace hv := hv.2.2.1 q
      refine sw_iconst (dX9_sided.at 33 rfl) ?_
      refine sw_iadd (dX9_sided.at 34 rfl) ?_
      refine sw_topI (y := ((a + 0 : Nat) : Int)) (by first | rfl | (congr 1)) ?_
      refine sw_istore_n (lo' := [some (vr (49)), some (vi (((s : Nat) : Int))), some (vi (((t : Nat) : Int))), some (vi (((a + 0 : Nat) : Int))), some (vi (((z : Nat) : Int)))]) (dX9_sided.at 35 rfl) rfl (by decide) rfl ?_
      refine sw_iinc (lo' := [some (vr (49)), some (vi (((s : Nat) : Int))), some (vi (((t : Nat) : Int))), some (vi (((a + 0 : Nat) : Int))), some (vi (((z + 1 : Nat) : Int)))]) (dX9_sided.at 36 rfl) rfl (by decide) rfl ?_
      refine sw_goto (tgt := 24) (dX9_sided.at 37 rfl) (by decide) ?_
      exact hv
    · replace hv := hv.2.2.2 q
      refine sw_aload_n (dX9_sided.at 25 rfl) rfl rfl ?_
      refine sw_iload (dX9_sided.at 26 rfl) rfl ?_
      refine sw_iconst (dX9_sided.at 27 rfl) ?_
      refine sw_callV (B' := B0) (As := [vi (((z : Nat) : Int)), vi (1)]) (mc := 0) (ms := 0) (dX9_sided.at 28 rfl) lk_X9_278 (S_lt 49 (by decide)) (S_49 nw nx g) rfl rfl (Nat.le_of_ble_eq_true rfl) rfl (Nat.le_refl _) (Nat.le_refl _) ?_
      refine c_X9_shorterBits (x := z) (sd := 1) (j := j + 0) hM hV hC hv.1 hv.2.1 ?_
      replace hv := hv.2.2
      refine sw_iload_n (dX9_sided.at 29 rfl) rfl rfl ?_
      refine sw_icmpN_ne (dsc P z 1) t (tgt := 60) (dX9_sided.at 30 rfl) (by decide) hv.1 hv.2.1 (fun q => ?_) (fun q => ?_)
      · replace hv := hv.2.2.1 q
        refine sw_iconst (dX9_sided.at 33 rfl) ?_
        refine sw_iadd (dX9_sided.at 34 rfl) ?_
        refine sw_topI (y := ((a + 0 : Nat) : Int)) (by first | rfl | (congr 1)) ?_
        refine sw_istore_n (lo' := [some (vr (49)), some (vi (((s : Nat) : Int))), some (vi (((t : Nat) : Int))), some (vi (((a + 0 : Nat) : Int))), some (vi (((z : Nat) : Int)))]) (dX9_sided.at 35 rfl) rfl (by decide) rfl ?_
        refine sw_iinc (lo' := [some (vr (49)), some (vi (((s : Nat) : Int))), some (vi (((t : Nat) : Int))), some (vi (((a + 0 : Nat) : Int))), some (vi (((z + 1 : Nat) : Int)))]) (dX9_sided.at 36 rfl) rfl (by decide) rfl ?_
        refine sw_goto (tgt := 24) (dX9_sided.at 37 rfl) (by decide) ?_
        exact hv
      · replace hv := hv.2.2.2 q
        refine sw_iconst (dX9_sided.at 31 rfl) ?_
        refine sw_goto (tgt := 61) (dX9_sided.at 32 rfl) (by decide) ?_
        refine sw_iadd (dX9_sided.at 34 rfl) ?_
        refine sw_topI (y := ((a + 1 : Nat) : Int)) (by first | rfl | (congr 1)) ?_
        refine sw_istore_n (lo' := [some (vr (49)), some (vi (((s : Nat) : Int))), some (vi (((t : Nat) : Int))), some (vi (((a + 1 : Nat) : Int))), some (vi (((z : Nat) : Int)))]) (dX9_sided.at 35 rfl) rfl (by decide) rfl ?_
        refine sw_iinc (lo' := [some (vr (49)), some (vi (((s : Nat) : Int))), some (vi (((t : Nat) : Int))), some (vi (((a + 1 : Nat) : Int))), some (vi (((z + 1 : Nat) : Int)))]) (dX9_sided.at 36 rfl) rfl (by decide) rfl ?_
        refine sw_goto (tgt := 24) (dX9_sided.at 37 rfl) (by decide) ?_
        exact hv

set_option maxHeartbeats 4000000 in
theorem lp_X9_sided_24 {G : GG} {j nw nx gn : Nat} {g : Nat → Sh} {c : Nat → Nat → Int} {post : Option AV → AM → Prop} {P : GD} {s : Nat} {t : Nat} (hM : ML c P) (hV : GV P) (hC : GC P) (hs0 : s < 2147483648) (ht0 : t < 2147483648) : ∀ (k : Nat) (z : Nat) (a : Nat) (d : Nat → Nat → Int), z + k = gN P → SC c d → (∀ c2 : Nat → Nat → Int, SC c c2 → post (some (vi (((a + cntD (pSd P s t) k z : Nat) : Int)))) (S nw nx g, 78 + gn, c2)) → SW G (j + 2) mX9_sided 24 [some (vr (49)), some (vi (((s : Nat) : Int))), some (vi (((t : Nat) : Int))), some (vi (((a : Nat) : Int))), some (vi (((z : Nat) : Int)))] [] (S nw nx g, 78 + gn, d) B0 post := by
  intro k
  induction k with
  | zero =>
    intro z a d hrel  hd K
    have h60 := GV_N hV
    have l9 := fun h => (hV.2.2.1 z h).2.2.2.2
    simp only [cntD, pSd] at K
    refine g_X9_sided_24 (c := d) (ML_SC hM hd) hV hC ?_
    rw [show dsc P z 0 = gF P z from rfl, show dsc P z 1 = gE P z from rfl]
    refine ⟨?_, ?_, ⟨fun q => ?_, fun q => ⟨?_, ?_, ⟨?_, ?_, ⟨fun q => ?_, fun q => ⟨?_, ?_, ⟨?_, ?_, ⟨fun q => ?_, fun q => ?_⟩⟩⟩⟩⟩⟩⟩⟩
    all_goals first | omega | (exfalso; omega) | (have := l9 (by omega); omega) | exact K _ (by first | exact SC_rf | assumption | (refine SC_tr ?_ (by assumption); first | assumption | (refine SC_tr ?_ (by assumption); first | assumption | (refine SC_tr ?_ (by assumption); assumption)))) | exact ih _ _ _ (by omega)  (by first | exact SC_rf | assumption | (refine SC_tr ?_ (by assumption); first | assumption | (refine SC_tr ?_ (by assumption); first | assumption | (refine SC_tr ?_ (by assumption); assumption)))) K | (simp only [*, if_true, if_false, ite_true, ite_false, Bool.false_eq_true, and_true, true_and, and_false, false_and, and_self, or_true, true_or, or_false, false_or, Bool.and_true, Bool.and_false, Bool.true_and, Bool.false_and, decide_true, decide_false, eq_self, not_true_eq_false, not_false_eq_true, ne_eq, reduceCtorEq, Nat.zero_add, Nat.add_zero, Nat.or_zero, ← Nat.add_assoc] at K; first | exact K _ (by first | exact SC_rf | assumption | (refine SC_tr ?_ (by assumption); first | assumption | (refine SC_tr ?_ (by assumption); first | assumption | (refine SC_tr ?_ (by assumption); assumption)))) | exact ih _ _ _ (by omega)  (by first | exact SC_rf | assumption | (refine SC_tr ?_ (by assumption); first | assumption | (refine SC_tr ?_ (by assumption); first | assumption | (refine SC_tr ?_ (by assumption); assumption)))) K)
  | succ k ih =>
    intro z a d hrel  hd K
    have h60 := GV_N hV
    have l9 := fun h => (hV.2.2.1 z h).2.2.2.2
    simp only [cntD, pSd] at K
    refine g_X9_sided_24 (c := d) (ML_SC hM hd) hV hC ?_
    rw [show dsc P z 0 = gF P z from rfl, show dsc P z 1 = gE P z from rfl]
    refine ⟨?_, ?_, ⟨fun q => ?_, fun q => ⟨?_, ?_, ⟨?_, ?_, ⟨fun q => ?_, fun q => ⟨?_, ?_, ⟨?_, ?_, ⟨fun q => ?_, fun q => ?_⟩⟩⟩⟩⟩⟩⟩⟩
    all_goals first | omega | assumption | (exfalso; omega) | (have := l9 (by omega); omega) | (simp only [*, if_true, if_false, ite_true, ite_false, Bool.false_eq_true, and_true, true_and, and_false, false_and, and_self, or_true, true_or, or_false, false_or, Bool.and_true, Bool.and_false, Bool.true_and, Bool.false_and, decide_true, decide_false, eq_self, not_true_eq_false, not_false_eq_true, ne_eq, reduceCtorEq, Nat.zero_add, Nat.add_zero, Nat.or_zero, ← Nat.add_assoc] at K; first | exact K _ (by first | exact SC_rf | assumption | (refine SC_tr ?_ (by assumption); first | assumption | (refine SC_tr ?_ (by assumption); first | assumption | (refine SC_tr ?_ (by assumption); assumption)))) | exact ih _ _ _ (by omega)  (by first | exact SC_rf | assumption | (refine SC_tr ?_ (by assumption); first | assumption | (refine SC_tr ?_ (by assumption); first | assumption | (refine SC_tr ?_ (by assumption); assumption)))) K) | exact K _ (by first | exact SC_rf | assumption | (refine SC_tr ?_ (by assumption); first | assumption | (refine SC_tr ?_ (by assumption); first | assumption | (refine SC_tr ?_ (by assumption); assumption)))) | exact ih _ _ _ (by omega)  (by first | exact SC_rf | assumption | (refine SC_tr ?_ (by assumption); first | assumption | (refine SC_tr ?_ (by assumption); first | assumption | (refine SC_tr ?_ (by assumption); assumption)))) K

set_option maxHeartbeats 2000000 in
set_option maxRecDepth 20000 in
theorem g_X9_sided_0n {G : GG} {j nw nx gn : Nat} {g : Nat → Sh} {c : Nat → Nat → Int} {post : Option AV → AM → Prop} {s : Nat} {t : Nat} {P : GD} (hM : ML c P) (hV : GV P) (hC : GC P)  (hv : (-2147483648 ≤ ((s : Nat) : Int) ∧ ((s : Nat) : Int) < 2147483648) ∧ ((((decide (0 < gN P ∧ 0 ≤ ((s : Nat) : Int) ∧ ((s : Nat) : Int) < ((2 ^ gR P : Nat) : Int))) = false) → post (some (vi ((-2)))) (S nw nx g, 78 + gn, c)) ∧ (((decide (0 < gN P ∧ 0 ≤ ((s : Nat) : Int) ∧ ((s : Nat) : Int) < ((2 ^ gR P : Nat) : Int))) = true) → (-2147483648 ≤ ((t : Nat) : Int) ∧ ((t : Nat) : Int) < 2147483648) ∧ ((((decide (0 < gN P ∧ 0 ≤ ((t : Nat) : Int) ∧ ((t : Nat) : Int) < ((2 ^ gR P : Nat) : Int))) = true) → SW G (j + 2) mX9_sided 24 [some (vr (49)), some (vi (((s : Nat) : Int))), some (vi (((t : Nat) : Int))), some (vi (0)), some (vi (0))] [] (S nw nx g, 78 + gn, c) B0 post) ∧ (((decide (0 < gN P ∧ 0 ≤ ((t : Nat) : Int) ∧ ((t : Nat) : Int) < ((2 ^ gR P : Nat) : Int))) = false) → post (some (vi ((-2)))) (S nw nx g, 78 + gn, c)))))) :
    SW G (j + 2) mX9_sided 0 [some (vr (49)), some (vi (((s : Nat) : Int))), some (vi (((t : Nat) : Int))), none, none] [] (S nw nx g, 78 + gn, c) B0 post := by
  refine sw_aload_n (dX9_sided.at 0 rfl) rfl rfl ?_
  refine sw_iload_n (dX9_sided.at 1 rfl) rfl rfl ?_
  refine sw_callV (B' := B0) (As := [vi (((s : Nat) : Int))]) (mc := 0) (ms := 0) (dX9_sided.at 2 rfl) lk_X9_360 (S_lt 49 (by decide)) (S_49 nw nx g) rfl rfl (Nat.le_of_ble_eq_true rfl) rfl (Nat.le_refl _) (Nat.le_refl _) ?_
  refine c_X9_isSet (x := ((s : Nat) : Int)) (j := j + 0) hM hV hv.1 ?_
  replace hv := hv.2
  refine sw_if_eq (tgt := 16) (dX9_sided.at 3 rfl) (by decide) (bz_rng _) (fun q => ?_) (fun q => ?_)
  · replace hv := hv.1 (bz_0 q)
    refine sw_bipush (dX9_sided.at 8 rfl) (by decide) ?_
    exact sw_iret (dX9_sided.at 9 rfl) rfl (Nat.le_refl _) (Nat.le_refl _) hv
  · replace hv := hv.2 (bz_n0 q)
    refine sw_aload_n (dX9_sided.at 4 rfl) rfl rfl ?_
    refine sw_iload_n (dX9_sided.at 5 rfl) rfl rfl ?_
    refine sw_callV (B' := B0) (As := [vi (((t : Nat) : Int))]) (mc := 0) (ms := 0) (dX9_sided.at 6 rfl) lk_X9_360 (S_lt 49 (by decide)) (S_49 nw nx g) rfl rfl (Nat.le_of_ble_eq_true rfl) rfl (Nat.le_refl _) (Nat.le_refl _) ?_
    refine c_X9_isSet (x := ((t : Nat) : Int)) (j := j + 0) hM hV hv.1 ?_
    replace hv := hv.2
    refine sw_if_ne (tgt := 19) (dX9_sided.at 7 rfl) (by decide) (bz_rng _) (fun q => ?_) (fun q => ?_)
    · replace hv := hv.1 (bz_1 q)
      refine sw_iconst (dX9_sided.at 10 rfl) ?_
      refine sw_istore_n (lo' := [some (vr (49)), some (vi (((s : Nat) : Int))), some (vi (((t : Nat) : Int))), some (vi (0)), none]) (dX9_sided.at 11 rfl) rfl (by decide) rfl ?_
      refine sw_iconst (dX9_sided.at 12 rfl) ?_
      refine sw_istore (lo' := [some (vr (49)), some (vi (((s : Nat) : Int))), some (vi (((t : Nat) : Int))), some (vi (0)), some (vi (0))]) (dX9_sided.at 13 rfl) (by decide) rfl ?_
      exact hv
    · replace hv := hv.2 (bz_n1 q)
      refine sw_bipush (dX9_sided.at 8 rfl) (by decide) ?_
      exact sw_iret (dX9_sided.at 9 rfl) rfl (Nat.le_refl _) (Nat.le_refl _) hv

set_option maxHeartbeats 2000000 in
set_option maxRecDepth 20000 in
theorem g_X9_sided_0 {G : GG} {j nw nx gn : Nat} {g : Nat → Sh} {c : Nat → Nat → Int} {post : Option AV → AM → Prop} {s : Int} {t : Int} {P : GD} (hM : ML c P) (hV : GV P) (hC : GC P)  (hv : (-2147483648 ≤ s ∧ s < 2147483648) ∧ ((((decide (0 < gN P ∧ 0 ≤ s ∧ s < ((2 ^ gR P : Nat) : Int))) = false) → post (some (vi ((-2)))) (S nw nx g, 78 + gn, c)) ∧ (((decide (0 < gN P ∧ 0 ≤ s ∧ s < ((2 ^ gR P : Nat) : Int))) = true) → (-2147483648 ≤ t ∧ t < 2147483648) ∧ ((((decide (0 < gN P ∧ 0 ≤ t ∧ t < ((2 ^ gR P : Nat) : Int))) = true) → SW G (j + 2) mX9_sided 24 [some (vr (49)), some (vi (s)), some (vi (t)), some (vi (0)), some (vi (0))] [] (S nw nx g, 78 + gn, c) B0 post) ∧ (((decide (0 < gN P ∧ 0 ≤ t ∧ t < ((2 ^ gR P : Nat) : Int))) = false) → post (some (vi ((-2)))) (S nw nx g, 78 + gn, c)))))) :
    SW G (j + 2) mX9_sided 0 [some (vr (49)), some (vi (s)), some (vi (t)), none, none] [] (S nw nx g, 78 + gn, c) B0 post := by
  refine sw_aload_n (dX9_sided.at 0 rfl) rfl rfl ?_
  refine sw_iload_n (dX9_sided.at 1 rfl) rfl rfl ?_
  refine sw_callV (B' := B0) (As := [vi (s)]) (mc := 0) (ms := 0) (dX9_sided.at 2 rfl) lk_X9_360 (S_lt 49 (by decide)) (S_49 nw nx g) rfl rfl (Nat.le_of_ble_eq_true rfl) rfl (Nat.le_refl _) (Nat.le_refl _) ?_
  refine c_X9_isSet (x := s) (j := j + 0) hM hV hv.1 ?_
  replace hv := hv.2
  refine sw_if_eq (tgt := 16) (dX9_sided.at 3 rfl) (by decide) (bz_rng _) (fun q => ?_) (fun q => ?_)
  · replace hv := hv.1 (bz_0 q)
    refine sw_bipush (dX9_sided.at 8 rfl) (by decide) ?_
    exact sw_iret (dX9_sided.at 9 rfl) rfl (Nat.le_refl _) (Nat.le_refl _) hv
  · replace hv := hv.2 (bz_n0 q)
    refine sw_aload_n (dX9_sided.at 4 rfl) rfl rfl ?_
    refine sw_iload_n (dX9_sided.at 5 rfl) rfl rfl ?_
    refine sw_callV (B' := B0) (As := [vi (t)]) (mc := 0) (ms := 0) (dX9_sided.at 6 rfl) lk_X9_360 (S_lt 49 (by decide)) (S_49 nw nx g) rfl rfl (Nat.le_of_ble_eq_true rfl) rfl (Nat.le_refl _) (Nat.le_refl _) ?_
    refine c_X9_isSet (x := t) (j := j + 0) hM hV hv.1 ?_
    replace hv := hv.2
    refine sw_if_ne (tgt := 19) (dX9_sided.at 7 rfl) (by decide) (bz_rng _) (fun q => ?_) (fun q => ?_)
    · replace hv := hv.1 (bz_1 q)
      refine sw_iconst (dX9_sided.at 10 rfl) ?_
      refine sw_istore_n (lo' := [some (vr (49)), some (vi (s)), some (vi (t)), some (vi (0)), none]) (dX9_sided.at 11 rfl) rfl (by decide) rfl ?_
      refine sw_iconst (dX9_sided.at 12 rfl) ?_
      refine sw_istore (lo' := [some (vr (49)), some (vi (s)), some (vi (t)), some (vi (0)), some (vi (0))]) (dX9_sided.at 13 rfl) (by decide) rfl ?_
      exact hv
    · replace hv := hv.2 (bz_n1 q)
      refine sw_bipush (dX9_sided.at 8 rfl) (by decide) ?_
      exact sw_iret (dX9_sided.at 9 rfl) rfl (Nat.le_refl _) (Nat.le_refl _) hv

set_option maxHeartbeats 4000000 in
theorem c_X9_sided {G : GG} {j nw nx gn : Nat} {g : Nat → Sh} {c : Nat → Nat → Int} {post : Option AV → AM → Prop} {P : GD} {s t : Int} (hM : ML c P) (hV : GV P) (hC : GC P) (p1 : -2147483648 ≤ s ∧ s < 2147483648) (p2 : -2147483648 ≤ t ∧ t < 2147483648) (K : ∀ c2 : Nat → Nat → Int, SC c c2 → post (some (vi (q_sided P s t))) (S nw nx g, 78 + gn, c2)) : SM G (j + 3) mX9_sided [vr (49), vi (s), vi (t)] (S nw nx g, 78 + gn, c) 0 0 post := by
  refine sm_of wX9_sided rfl (Nat.le_of_ble_eq_true rfl) ?_
  have hN60 := GV_N hV
  have hR5 := GV_R hV
  by_cases hv : (0 < gN P ∧ 0 ≤ s ∧ s < ((2 ^ gR P : Nat) : Int)) ∧ 0 < gN P ∧ 0 ≤ t ∧ t < ((2 ^ gR P : Nat) : Int)
  · obtain ⟨s, rfl⟩ : ∃ n : Nat, s = (n : Int) := ⟨s.toNat, by omega⟩
    obtain ⟨t, rfl⟩ : ∃ n : Nat, t = (n : Int) := ⟨t.toNat, by omega⟩
    have e : q_sided P ((s : Nat) : Int) ((t : Nat) : Int) = ((cntU (pSd P s t) (gN P) : Nat) : Int) := by
      rw [q_sided, if_pos hv]
      simp only [Int.toNat_natCast]
    rw [e] at K
    have K1 : ∀ (z : Int) (c2 : Nat → Nat → Int), (SC c c2) → z = (((cntU (pSd P s t) (gN P) : Nat) : Int)) → post (some (vi z)) (S nw nx g, 78 + gn, c2) := fun z c2 h e9 => e9 ▸ K c2 h
    refine g_X9_sided_0n hM hV hC ?_
    refine ⟨?_, ⟨fun q => ?_, fun q => ⟨?_, ⟨fun q => ?_, fun q => ?_⟩⟩⟩⟩
    all_goals first | omega | assumption | (exfalso; simp only [decide_eq_true_eq, decide_eq_false_iff_not] at *; omega) | exact lp_X9_sided_24 hM hV hC (by omega) (by omega) (gN P) 0 0 c (by omega) SC_rf (by simpa only [cntD_U, Nat.zero_add] using K) | exact K _ (by first | exact SC_rf | assumption | (refine SC_tr ?_ (by assumption); first | assumption | (refine SC_tr ?_ (by assumption); first | assumption | (refine SC_tr ?_ (by assumption); assumption)))) | (refine K1 _ _ (by first | exact SC_rf | assumption | (refine SC_tr ?_ (by assumption); first | assumption | (refine SC_tr ?_ (by assumption); first | assumption | (refine SC_tr ?_ (by assumption); assumption)))) ?_; first | rfl | (simp [bz, *]; done) | (split <;> first | rfl | omega))
  · have e : q_sided P s t = (-2) := by rw [q_sided, if_neg hv]
    rw [e] at K
    have K1 : ∀ (z : Int) (c2 : Nat → Nat → Int), (SC c c2) → z = ((-2)) → post (some (vi z)) (S nw nx g, 78 + gn, c2) := fun z c2 h e9 => e9 ▸ K c2 h
    refine g_X9_sided_0 hM hV hC ?_
    refine ⟨?_, ⟨fun q => ?_, fun q => ⟨?_, ⟨fun q => ?_, fun q => ?_⟩⟩⟩⟩
    all_goals first | omega | assumption | (exfalso; simp only [decide_eq_true_eq, decide_eq_false_iff_not] at *; omega) | exact K _ (by first | exact SC_rf | assumption | (refine SC_tr ?_ (by assumption); first | assumption | (refine SC_tr ?_ (by assumption); first | assumption | (refine SC_tr ?_ (by assumption); assumption)))) | (refine K1 _ _ (by first | exact SC_rf | assumption | (refine SC_tr ?_ (by assumption); first | assumption | (refine SC_tr ?_ (by assumption); first | assumption | (refine SC_tr ?_ (by assumption); assumption)))) ?_; first | rfl | (simp [bz, *]; done) | (split <;> first | rfl | omega))

