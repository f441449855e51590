abbrev RWS (P : GD) (x : Nat) (c2 : Nat → Nat → Int) : Prop := c2 49 27 = ((gW P x : Nat) : Int) ∧ ∀ k i, k < gW P x → i < gL P x → c2 62 (14 * k + i) = ((rlF P i x k : Nat) : Int)
set_option maxHeartbeats 2000000 in
set_option maxRecDepth 20000 in
theorem g_X9_laysAllRows_0 {G : GG} {j nw nx gn : Nat} {g : Nat → Sh} {c : Nat → Nat → Int} {post : Option AV → AM → Prop} {x : Nat} {P : GD} (hcall : ∀ (po : Option AV → AM → Prop), (∀ c2 : Nat → Nat → Int, (SC c c2 ∧ RWS P x c2) → po none (S nw nx g, 78 + gn, c2)) → SM G (j + 16) mX9_laysRows [vr 49, vi ((x : Nat) : Int), vi ((x : Nat) : Int), vi 0] (S nw nx g, 78 + gn, (up2 c 49 27 0)) 0 0 po)  (hv : (∀ c_1 : Nat → Nat → Int, (SC c c_1 ∧ RWS P x c_1) → post none (S nw nx g, 78 + gn, c_1))) :
    SW G (j + 16) mX9_laysAllRows 0 [some (vr (49)), some (vi (((x : Nat) : Int)))] [] (S nw nx g, 78 + gn, c) B0 post := by
  refine sw_aload_n (dX9_laysAllRows.at 0 rfl) rfl rfl ?_
  refine sw_iconst (dX9_laysAllRows.at 1 rfl) ?_
  refine sw_putI (dX9_laysAllRows.at 2 rfl) fp_X9_261 (S_lt 49 (by decide)) (S_49 nw nx g) rfl ?_
  refine sw_aload_n (dX9_laysAllRows.at 3 rfl) rfl rfl ?_
  refine sw_iload_n (dX9_laysAllRows.at 4 rfl) rfl rfl ?_
  refine sw_iload_n (dX9_laysAllRows.at 5 rfl) rfl rfl ?_
  refine sw_iconst (dX9_laysAllRows.at 6 rfl) ?_
  refine sw_callV (B' := B0) (As := [vi (((x : Nat) : Int)), vi (((x : Nat) : Int)), vi (0)]) (mc := 0) (ms := 0) (dX9_laysAllRows.at 7 rfl) lk_X9_264 (S_lt 49 (by decide)) (S_49 nw nx g) rfl rfl (Nat.le_of_ble_eq_true rfl) rfl (Nat.le_refl _) (Nat.le_refl _) ?_
  refine hcall _  (fun c_1 h_1 => ?_)
  replace hv := hv c_1 h_1
  exact sw_vret (dX9_laysAllRows.at 8 rfl) rfl (Nat.le_refl _) (Nat.le_refl _) hv

set_option maxHeartbeats 2000000 in
theorem c_X9_laysAllRows {G : GG} {j nw nx gn : Nat} {g : Nat → Sh} {c : Nat → Nat → Int} {post : Option AV → AM → Prop} {P : GD} {x : Nat} (hM : ML c P) (hV : GV P) (hC : GC P) (hS : hSp P) (p1 : x < gN P) (K : ∀ c2 : Nat → Nat → Int, (SC c c2 ∧ RWS P x c2) → post none (S nw nx g, 78 + gn, c2)) : SM G (j + 17) mX9_laysAllRows [vr (49), vi (((x : Nat) : Int))] (S nw nx g, 78 + gn, c) 0 0 post := by
  refine sm_of wX9_laysAllRows rfl (Nat.le_of_ble_eq_true rfl) ?_
  have h1 := (hV.2.2.1 x p1)
  refine g_X9_laysAllRows_0 (fun po K2 => ?_) (fun c_1 h_1 => K c_1 h_1)
  have h9 := c_X9_laysRowsR (G := G) (nw := nw) (nx := nx) (gn := gn) (g := g) (x := x) hM hV hC hS 13 j x 0 (c 61) (c 62) 0 po p1 h1.1 (by omega) (by omega) (fun s1 w1 hr => K2 _ ⟨SC_wr (SC_wr (SC_27 SC_rf) (by decide)) (by decide), by rw [wr_off (by decide), wr_off (by decide), up2_eq, Nat.zero_add], fun k i hk hi => by
    rw [wr_at]
    have := (hr.2.2 k hk).2 i hi
    rwa [Nat.zero_add, Nat.zero_add] at this⟩)
  have e1 : wr (wr (up2 c 49 27 (((0 : Nat)) : Int)) 61 (c 61)) 62 (c 62) = up2 c 49 27 0 := by
    have a := wr_self (up2 c 49 27 0) 61
    rw [show up2 c 49 27 0 61 = c 61 from up2_off (by decide)] at a
    have b := wr_self (up2 c 49 27 0) 62
    rw [show up2 c 49 27 0 62 = c 62 from up2_off (by decide)] at b
    show wr (wr (up2 c 49 27 0) 61 (c 61)) 62 (c 62) = _
    rw [a, b]
  rw [e1] at h9
  exact h9

set_option maxHeartbeats 2000000 in
set_option maxRecDepth 20000 in
theorem g_X9_spelled_0n {G : GG} {j nw nx gn : Nat} {g : Nat → Sh} {c : Nat → Nat → Int} {post : Option AV → AM → Prop} {x : Nat} {k : Nat} {i : Nat} {P : GD} (hM : ML c P) (hV : GV P) (hC : GC P) (hS : hSp P)  (hv : (-2147483648 ≤ ((x : Nat) : Int) ∧ ((x : Nat) : Int) < 2147483648) ∧ ((((decide (0 ≤ ((x : Nat) : Int) ∧ ((x : Nat) : Int) < (gN P : Int))) = false) → post (some (vi ((-2)))) (S nw nx g, 78 + gn, c)) ∧ (((decide (0 ≤ ((x : Nat) : Int) ∧ ((x : Nat) : Int) < (gN P : Int))) = true) → (k < 2147483648) ∧ (((((k : Nat) : Int) < 0) → post (some (vi ((-2)))) (S nw nx g, 78 + gn, c)) ∧ ((¬ (((k : Nat) : Int) < 0)) → (i < 2147483648) ∧ (((0 ≤ ((i : Nat) : Int)) → (x < gN P) ∧ (∀ c_1 : Nat → Nat → Int, (SC c c_1 ∧ RWS P x c_1) → (k < 2147483648) ∧ (gW P x < 2147483648) ∧ (((gW P x ≤ k) → post (some (vi ((-1)))) (S nw nx g, 78 + gn, c_1)) ∧ ((¬ (gW P x ≤ k)) → (x < gN P) ∧ ((i < 2147483648) ∧ (gL P x < 2147483648) ∧ (((gL P x ≤ i) → post (some (vi ((-1)))) (S nw nx g, 78 + gn, c_1)) ∧ ((¬ (gL P x ≤ i)) → (k < gW P x) ∧ (i < gL P x) ∧ ((14 * k) + i < 4200) ∧ (post (some (vi (((rlF P i x k : Nat) : Int)))) (S nw nx g, 78 + gn, c_1))))))))) ∧ ((¬ (0 ≤ ((i : Nat) : Int))) → post (some (vi ((-2)))) (S nw nx g, 78 + gn, c)))))))) :
    SW G (j + 17) mX9_spelled 0 [some (vr (49)), some (vi (((x : Nat) : Int))), some (vi (((k : Nat) : Int))), some (vi (((i : Nat) : Int)))] [] (S nw nx g, 78 + gn, c) B0 post := by
  refine sw_aload_n (dX9_spelled.at 0 rfl) rfl rfl ?_
  refine sw_iload_n (dX9_spelled.at 1 rfl) rfl rfl ?_
  refine sw_callV (B' := B0) (As := [vi (((x : Nat) : Int))]) (mc := 0) (ms := 0) (dX9_spelled.at 2 rfl) lk_X9_251 (S_lt 49 (by decide)) (S_49 nw nx g) rfl rfl (Nat.le_of_ble_eq_true rfl) rfl (Nat.le_refl _) (Nat.le_refl _) ?_
  refine c_X9_isElement (x := ((x : Nat) : Int)) (j := j + 15) hM hV hv.1 ?_
  replace hv := hv.2
  refine sw_if_eq (tgt := 16) (dX9_spelled.at 3 rfl) (by decide) (bz_rng _) (fun q => ?_) (fun q => ?_)
  · replace hv := hv.1 (bz_0 q)
    refine sw_bipush (dX9_spelled.at 8 rfl) (by decide) ?_
    exact sw_iret (dX9_spelled.at 9 rfl) rfl (Nat.le_refl _) (Nat.le_refl _) hv
  · replace hv := hv.2 (bz_n0 q)
    refine sw_iload_n (dX9_spelled.at 4 rfl) rfl rfl ?_
    refine sw_if_lt (tgt := 16) (dX9_spelled.at 5 rfl) (by decide) (nrng hv.1) (fun q => ?_) (fun q => ?_)
    · replace hv := hv.2.1 q
      refine sw_bipush (dX9_spelled.at 8 rfl) (by decide) ?_
      exact sw_iret (dX9_spelled.at 9 rfl) rfl (Nat.le_refl _) (Nat.le_refl _) hv
    · replace hv := hv.2.2 q
      refine sw_iload_n (dX9_spelled.at 6 rfl) rfl rfl ?_
      refine sw_if_ge (tgt := 19) (dX9_spelled.at 7 rfl) (by decide) (nrng hv.1) (fun q => ?_) (fun q => ?_)
      · replace hv := hv.2.1 q
        refine sw_aload_n (dX9_spelled.at 10 rfl) rfl rfl ?_
        refine sw_iload_n (dX9_spelled.at 11 rfl) rfl rfl ?_
        refine sw_callV (B' := B0) (As := [vi (((x : Nat) : Int))]) (mc := 0) (ms := 0) (dX9_spelled.at 12 rfl) lk_X9_267 (S_lt 49 (by decide)) (S_49 nw nx g) rfl rfl (Nat.le_of_ble_eq_true rfl) rfl (Nat.le_refl _) (Nat.le_refl _) ?_
        refine c_X9_laysAllRows (x := x) (j := j + 0) hM hV hC hS hv.1 (fun c_1 h_1 => ?_)
        replace hv := hv.2 c_1 h_1
        refine sw_iload_n (dX9_spelled.at 13 rfl) rfl rfl ?_
        refine sw_aload_n (dX9_spelled.at 14 rfl) rfl rfl ?_
        refine sw_getIE (w := ((gW P x : Nat) : Int)) (dX9_spelled.at 15 rfl) fp_X9_261 (S_lt 49 (by decide)) (S_49 nw nx g) rfl h_1.2.1 ?_
        refine sw_icmpN_ge k (gW P x) (tgt := 56) (dX9_spelled.at 16 rfl) (by decide) hv.1 hv.2.1 (fun q => ?_) (fun q => ?_)
        · replace hv := hv.2.2.1 q
          refine sw_iconst (dX9_spelled.at 32 rfl) ?_
          exact sw_iret (dX9_spelled.at 33 rfl) rfl (Nat.le_refl _) (Nat.le_refl _) hv
        · replace hv := hv.2.2.2 q
          refine sw_iload_n (dX9_spelled.at 17 rfl) rfl rfl ?_
          refine sw_aload_n (dX9_spelled.at 18 rfl) rfl rfl ?_
          refine sw_getR (dX9_spelled.at 19 rfl) fp_X9_32 (S_lt 49 (by decide)) (S_49 nw nx g) rfl rfl ?_
          refine sw_iload_n (dX9_spelled.at 20 rfl) rfl rfl ?_
          refine sw_ialdN x (w := ((gL P x : Nat) : Int)) (dX9_spelled.at 21 rfl) (S_lt 56 (by decide)) (S_56 nw nx g) (by decide) (GV_lt hV hv.1) (ML_L (ML_SC hM (SC_tr SC_rf h_1.1)) hv.1) ?_
          replace hv := hv.2
          refine sw_icmpN_ge i (gL P x) (tgt := 56) (dX9_spelled.at 22 rfl) (by decide) hv.1 hv.2.1 (fun q => ?_) (fun q => ?_)
          · replace hv := hv.2.2.1 q
            refine sw_iconst (dX9_spelled.at 32 rfl) ?_
            exact sw_iret (dX9_spelled.at 33 rfl) rfl (Nat.le_refl _) (Nat.le_refl _) hv
          · replace hv := hv.2.2.2 q
            refine sw_aload_n (dX9_spelled.at 23 rfl) rfl rfl ?_
            refine sw_getR (dX9_spelled.at 24 rfl) fp_X9_50 (S_lt 49 (by decide)) (S_49 nw nx g) rfl rfl ?_
            refine sw_bipush (dX9_spelled.at 25 rfl) (by decide) ?_
            refine sw_iload_n (dX9_spelled.at 26 rfl) rfl rfl ?_
            refine sw_imul (dX9_spelled.at 27 rfl) ?_
            refine sw_topI (y := ((14 * k : Nat) : Int)) (by first | rfl | (congr 1)) ?_
            refine sw_iload_n (dX9_spelled.at 28 rfl) rfl rfl ?_
            refine sw_iadd (dX9_spelled.at 29 rfl) ?_
            refine sw_topI (y := (((14 * k) + i : Nat) : Int)) (by first | rfl | (congr 1)) ?_
            refine sw_ialdN ((14 * k) + i) (w := ((rlF P i x k : Nat) : Int)) (dX9_spelled.at 30 rfl) (S_lt 62 (by decide)) (S_62 nw nx g) (by decide) hv.2.2.1 (h_1.2.2 k i hv.1 hv.2.1) ?_
            replace hv := hv.2.2.2
            refine sw_goto (tgt := 57) (dX9_spelled.at 31 rfl) (by decide) ?_
            exact sw_iret (dX9_spelled.at 33 rfl) rfl (Nat.le_refl _) (Nat.le_refl _) hv
      · replace hv := hv.2.2 q
        refine sw_bipush (dX9_spelled.at 8 rfl) (by decide) ?_
        exact sw_iret (dX9_spelled.at 9 rfl) rfl (Nat.le_refl _) (Nat.le_refl _) hv

set_option maxHeartbeats 2000000 in
set_option maxRecDepth 20000 in
theorem g_X9_spelled_0 {G : GG} {j nw nx gn : Nat} {g : Nat → Sh} {c : Nat → Nat → Int} {post : Option AV → AM → Prop} {x : Int} {k : Int} {i : Int} {P : GD} (hM : ML c P) (hV : GV P) (hC : GC P) (hS : hSp P)  (hv : (-2147483648 ≤ x ∧ x < 2147483648) ∧ ((((decide (0 ≤ x ∧ x < (gN P : Int))) = false) → post (some (vi ((-2)))) (S nw nx g, 78 + gn, c)) ∧ (((decide (0 ≤ x ∧ x < (gN P : Int))) = true) → (-2147483648 ≤ k ∧ k < 2147483648) ∧ (((k < 0) → post (some (vi ((-2)))) (S nw nx g, 78 + gn, c)) ∧ ((¬ (k < 0)) → (-2147483648 ≤ i ∧ i < 2147483648) ∧ (((0 ≤ i) → SW G (j + 17) mX9_spelled 21 [some (vr (49)), some (vi (x)), some (vi (k)), some (vi (i))] [vi (x), vr (49)] (S nw nx g, 78 + gn, c) B0 post) ∧ ((¬ (0 ≤ i)) → post (some (vi ((-2)))) (S nw nx g, 78 + gn, c)))))))) :
    SW G (j + 17) mX9_spelled 0 [some (vr (49)), some (vi (x)), some (vi (k)), some (vi (i))] [] (S nw nx g, 78 + gn, c) B0 post := by
  refine sw_aload_n (dX9_spelled.at 0 rfl) rfl rfl ?_
  refine sw_iload_n (dX9_spelled.at 1 rfl) rfl rfl ?_
  refine sw_callV (B' := B0) (As := [vi (x)]) (mc := 0) (ms := 0) (dX9_spelled.at 2 rfl) lk_X9_251 (S_lt 49 (by decide)) (S_49 nw nx g) rfl rfl (Nat.le_of_ble_eq_true rfl) rfl (Nat.le_refl _) (Nat.le_refl _) ?_
  refine c_X9_isElement (x := x) (j := j + 15) hM hV hv.1 ?_
  replace hv := hv.2
  refine sw_if_eq (tgt := 16) (dX9_spelled.at 3 rfl) (by decide) (bz_rng _) (fun q => ?_) (fun q => ?_)
  · replace hv := hv.1 (bz_0 q)
    refine sw_bipush (dX9_spelled.at 8 rfl) (by decide) ?_
    exact sw_iret (dX9_spelled.at 9 rfl) rfl (Nat.le_refl _) (Nat.le_refl _) hv
  · replace hv := hv.2 (bz_n0 q)
    refine sw_iload_n (dX9_spelled.at 4 rfl) rfl rfl ?_
    refine sw_if_lt (tgt := 16) (dX9_spelled.at 5 rfl) (by decide) hv.1 (fun q => ?_) (fun q => ?_)
    · replace hv := hv.2.1 q
      refine sw_bipush (dX9_spelled.at 8 rfl) (by decide) ?_
      exact sw_iret (dX9_spelled.at 9 rfl) rfl (Nat.le_refl _) (Nat.le_refl _) hv
    · replace hv := hv.2.2 q
      refine sw_iload_n (dX9_spelled.at 6 rfl) rfl rfl ?_
      refine sw_if_ge (tgt := 19) (dX9_spelled.at 7 rfl) (by decide) hv.1 (fun q => ?_) (fun q => ?_)
      · replace hv := hv.2.1 q
        refine sw_aload_n (dX9_spelled.at 10 rfl) rfl rfl ?_
        refine sw_iload_n (dX9_spelled.at 11 rfl) rfl rfl ?_
        exact hv
      · replace hv := hv.2.2 q
        refine sw_bipush (dX9_spelled.at 8 rfl) (by decide) ?_
        exact sw_iret (dX9_spelled.at 9 rfl) rfl (Nat.le_refl _) (Nat.le_refl _) hv

set_option maxHeartbeats 4000000 in
theorem c_X9_spelled {G : GG} {j nw nx gn : Nat} {g : Nat → Sh} {c : Nat → Nat → Int} {post : Option AV → AM → Prop} {P : GD} {x k i : Int} (hM : ML c P) (hV : GV P) (hC : GC P) (hS : hSp P) (p1 : -2147483648 ≤ x ∧ x < 2147483648) (p2 : -2147483648 ≤ k ∧ k < 2147483648) (p3 : -2147483648 ≤ i ∧ i < 2147483648) (K : ∀ c2 : Nat → Nat → Int, SC c c2 → post (some (vi (q_spelled P x k i))) (S nw nx g, 78 + gn, c2)) : SM G (j + 18) mX9_spelled [vr (49), vi (x), vi (k), vi (i)] (S nw nx g, 78 + gn, c) 0 0 post := by
  refine sm_of wX9_spelled rfl (Nat.le_of_ble_eq_true rfl) ?_
  have hN60 := GV_N hV
  have hR5 := GV_R hV
  by_cases hv : (0 ≤ x ∧ x < (gN P : Int)) ∧ 0 ≤ k ∧ 0 ≤ i
  · obtain ⟨x, rfl⟩ : ∃ n : Nat, x = (n : Int) := ⟨x.toNat, by omega⟩
    obtain ⟨k, rfl⟩ : ∃ n : Nat, k = (n : Int) := ⟨k.toNat, by omega⟩
    obtain ⟨i, rfl⟩ : ∃ n : Nat, i = (n : Int) := ⟨i.toNat, by omega⟩
    have e : q_spelled P ((x : Nat) : Int) ((k : Nat) : Int) ((i : Nat) : Int) = if k < gW P x ∧ i < gL P x then ((rlF P i x k : Nat) : Int) else (-1) := by
      rw [q_spelled, if_pos hv]
      simp only [Int.toNat_natCast]
    rw [e] at K
    have K1 : ∀ (z : Int) (c2 : Nat → Nat → Int), (SC c c2) → z = (if k < gW P x ∧ i < gL P x then ((rlF P i x k : Nat) : Int) else (-1)) → post (some (vi z)) (S nw nx g, 78 + gn, c2) := fun z c2 h e9 => e9 ▸ K c2 h
    have hx : x < gN P := by omega
    have fx := hV.2.2.1 x hx
    refine g_X9_spelled_0n hM hV hC hS ?_
    refine ⟨?_, ⟨fun q => ?_, fun q => ⟨?_, ⟨fun q => ?_, fun q => ⟨?_, ⟨fun q => ⟨?_, fun c_1 h_1 => ⟨?_, ?_, ⟨fun q => ?_, fun q => ⟨?_, ⟨?_, ?_, ⟨fun q => ?_, fun q => ⟨?_, ?_, ?_, ?_⟩⟩⟩⟩⟩⟩⟩, fun q => ?_⟩⟩⟩⟩⟩⟩
    all_goals first | omega | assumption | (exfalso; simp only [decide_eq_true_eq, decide_eq_false_iff_not] at *; omega) | (refine K1 _ _ h_1.1 ?_; first | (rw [if_pos (by omega)]) | (rw [if_neg (by omega)])) | exact K _ (by first | exact SC_rf | assumption | (refine SC_tr ?_ (by assumption); first | assumption | (refine SC_tr ?_ (by assumption); first | assumption | (refine SC_tr ?_ (by assumption); assumption)))) | (refine K1 _ _ (by first | exact SC_rf | assumption | (refine SC_tr ?_ (by assumption); first | assumption | (refine SC_tr ?_ (by assumption); first | assumption | (refine SC_tr ?_ (by assumption); assumption)))) ?_; first | rfl | (simp [bz, *]; done) | (split <;> first | rfl | omega))
  · have e : q_spelled P x k i = (-2) := by rw [q_spelled, if_neg hv]
    rw [e] at K
    have K1 : ∀ (z : Int) (c2 : Nat → Nat → Int), (SC c c2) → z = ((-2)) → post (some (vi z)) (S nw nx g, 78 + gn, c2) := fun z c2 h e9 => e9 ▸ K c2 h
    refine g_X9_spelled_0 hM hV hC hS ?_
    refine ⟨?_, ⟨fun q => ?_, fun q => ⟨?_, ⟨fun q => ?_, fun q => ⟨?_, ⟨fun q => ?_, fun q => ?_⟩⟩⟩⟩⟩⟩
    all_goals first | omega | assumption | (exfalso; simp only [decide_eq_true_eq, decide_eq_false_iff_not] at *; omega) | exact K _ (by first | exact SC_rf | assumption | (refine SC_tr ?_ (by assumption); first | assumption | (refine SC_tr ?_ (by assumption); first | assumption | (refine SC_tr ?_ (by assumption); assumption)))) | (refine K1 _ _ (by first | exact SC_rf | assumption | (refine SC_tr ?_ (by assumption); first | assumption | (refine SC_tr ?_ (by assumption); first | assumption | (refine SC_tr ?_ (by assumption); assumption)))) ?_; first | rfl | (simp [bz, *]; done) | (split <;> first | rfl | omega))

