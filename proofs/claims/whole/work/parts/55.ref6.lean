def hOr (P : GD) : Prop := ∀ x, x < gN P → ∃ t, t < 60 ∧ gPw P x t = 0
def mtF (P : GD) (x y sd : Nat) : Nat → Nat → Nat → Nat
  | 0, _, b => b
  | k + 1, z, b => mtF P x y sd k (z + 1) (if gWk P z x sd && gWk P z y sd && decide (gL P b < gL P z) then z else b)
def jnF (P : GD) (x y sd : Nat) : Nat → Nat → Nat → Nat
  | 0, _, b => b
  | k + 1, z, b => jnF P x y sd k (z + 1) (if gWk P x z sd && gWk P y z sd && decide (gL P z < gL P b) then z else b)
def hLa (P : GD) : Prop := ∀ x y sd, x < gN P → y < gN P → sd < 2 → mtF P x y sd (gN P) 0 0 = meetF P x y sd (gN P - 1) ∧ jnF P x y sd (gN P) 0 (gN P - 1) = joinF P x y sd (gN P - 1) 0
set_option maxHeartbeats 2000000 in
set_option maxRecDepth 20000 in
theorem g_X9_order_15 {G : GG} {j nw nx gn : Nat} {g : Nat → Sh} {c : Nat → Nat → Int} {post : Option AV → AM → Prop} {x : Nat} {P : GD} {t : Nat} (hM : ML c P) (hV : GV P) (hC : GC P)  (hv : (gPw P x t < 2147483648) ∧ (((gPw P x t = 0) → post (some (vi (((t + 1 : Nat) : Int)))) (S nw nx g, 78 + gn, c)) ∧ ((¬ (gPw P x t = 0)) → ((gPw P x t) < gN P) ∧ (x < gN P) ∧ (∀ c_1 : Nat → Nat → Int, SC c c_1 → SW G (j + 3) mX9_order 15 [some (vr (49)), some (vi (((x : Nat) : Int))), some (vi ((((t + 1) + 1 : Nat) : Int))), some (vi (((gX P (gPw P x t) x : Nat) : Int)))] [] (S nw nx g, 78 + gn, c_1) B0 post)))) :
    SW G (j + 3) mX9_order 15 [some (vr (49)), some (vi (((x : Nat) : Int))), some (vi (((t + 1 : Nat) : Int))), some (vi (((gPw P x t : Nat) : Int)))] [] (S nw nx g, 78 + gn, c) B0 post := by
  refine sw_iload_n (dX9_order.at 10 rfl) rfl rfl ?_
  refine sw_ifN_eq (gPw P x t) (tgt := 32) (dX9_order.at 11 rfl) (by decide) hv.1 (fun q => ?_) (fun q => ?_)
  · replace hv := hv.2.1 q
    refine sw_iload_n (dX9_order.at 19 rfl) rfl rfl ?_
    exact sw_iret (dX9_order.at 20 rfl) rfl (Nat.le_refl _) (Nat.le_refl _) hv
  · replace hv := hv.2.2 q
    refine sw_iinc (lo' := [some (vr (49)), some (vi (((x : Nat) : Int))), some (vi ((((t + 1) + 1 : Nat) : Int))), some (vi (((gPw P x t : Nat) : Int)))]) (dX9_order.at 12 rfl) rfl (by decide) rfl ?_
    refine sw_aload_n (dX9_order.at 13 rfl) rfl rfl ?_
    refine sw_iload_n (dX9_order.at 14 rfl) rfl rfl ?_
    refine sw_iload_n (dX9_order.at 15 rfl) rfl rfl ?_
    refine sw_callV (B' := B0) (As := [vi (((gPw P x t : Nat) : Int)), vi (((x : Nat) : Int))]) (mc := 0) (ms := 0) (dX9_order.at 16 rfl) lk_X9_237 (S_lt 49 (by decide)) (S_49 nw nx g) rfl rfl (Nat.le_of_ble_eq_true rfl) rfl (Nat.le_refl _) (Nat.le_refl _) ?_
    refine c_X9_product (x := (gPw P x t)) (y := x) (j := j + 1) hM hV hC hv.1 hv.2.1 (fun c_1 h_1 => ?_)
    replace hv := hv.2.2 c_1 h_1
    refine sw_istore_n (lo' := [some (vr (49)), some (vi (((x : Nat) : Int))), some (vi ((((t + 1) + 1 : Nat) : Int))), some (vi (((gX P (gPw P x t) x : Nat) : Int)))]) (dX9_order.at 17 rfl) rfl (by decide) rfl ?_
    refine sw_goto (tgt := 15) (dX9_order.at 18 rfl) (by decide) ?_
    exact hv

set_option maxHeartbeats 4000000 in
theorem lp_X9_order_15 {G : GG} {j nw nx gn : Nat} {g : Nat → Sh} {c : Nat → Nat → Int} {post : Option AV → AM → Prop} {P : GD} {x : Nat} (hM : ML c P) (hV : GV P) (hC : GC P) (hx : x < gN P) (hO : hOr P) : ∀ (k : Nat) (t : Nat) (d : Nat → Nat → Int), t + k = 59 → (∀ u, u < t → gPw P x u ≠ 0) → SC c d → (∀ c2 : Nat → Nat → Int, SC c c2 → post (some (vi (((ordF P x k t : Nat) : Int)))) (S nw nx g, 78 + gn, c2)) → SW G (j + 3) mX9_order 15 [some (vr (49)), some (vi (((x : Nat) : Int))), some (vi (((t + 1 : Nat) : Int))), some (vi (((gPw P x t : Nat) : Int)))] [] (S nw nx g, 78 + gn, d) B0 post := by
  intro k
  induction k with
  | zero =>
    intro t d hrel ht hd K
    have p9 := gPw_lt hV hx t
    have h60 := GV_N hV
    obtain ⟨u, hu, h0⟩ := hO x hx
    have e0 : gPw P x t = 0 := by
      by_cases q : u < t
      · exact absurd h0 (ht u q)
      · rw [show t = u by omega]; exact h0
    rw [ordF] at K
    refine g_X9_order_15 (c := d) (ML_SC hM hd) hV hC ?_
    
    refine ⟨?_, ⟨fun q => ?_, fun q => ⟨?_, ?_, fun c_1 h_1 => ?_⟩⟩⟩
    all_goals first | omega | exact K _ hd | (exfalso; omega)
  | succ k ih =>
    intro t d hrel ht hd K
    have p9 := gPw_lt hV hx t
    have h60 := GV_N hV
    rw [ordF] at K
    refine g_X9_order_15 (c := d) (ML_SC hM hd) hV hC ?_
    
    refine ⟨?_, ⟨fun q => ?_, fun q => ⟨?_, ?_, fun c_1 h_1 => ?_⟩⟩⟩
    all_goals first | omega | assumption | (rw [if_pos (by assumption)] at K; exact K _ hd) | (rw [if_neg (by assumption)] at K; exact ih _ _ (by omega) (fun u hu => (by by_cases e : u = t; (rw [e]; assumption); exact ht u (by omega))) (SC_tr hd h_1) K)

set_option maxHeartbeats 2000000 in
set_option maxRecDepth 20000 in
theorem g_X9_order_0n {G : GG} {j nw nx gn : Nat} {g : Nat → Sh} {c : Nat → Nat → Int} {post : Option AV → AM → Prop} {x : Nat} {P : GD} (hM : ML c P) (hV : GV P) (hC : GC P) (hO : hOr P)  (hv : (-2147483648 ≤ ((x : Nat) : Int) ∧ ((x : Nat) : Int) < 2147483648) ∧ ((((decide (0 ≤ ((x : Nat) : Int) ∧ ((x : Nat) : Int) < (gN P : Int))) = true) → SW G (j + 3) mX9_order 15 [some (vr (49)), some (vi (((x : Nat) : Int))), some (vi (1)), some (vi (((x : Nat) : Int)))] [] (S nw nx g, 78 + gn, c) B0 post) ∧ (((decide (0 ≤ ((x : Nat) : Int) ∧ ((x : Nat) : Int) < (gN P : Int))) = false) → post (some (vi ((-2)))) (S nw nx g, 78 + gn, c)))) :
    SW G (j + 3) mX9_order 0 [some (vr (49)), some (vi (((x : Nat) : Int))), none, none] [] (S nw nx g, 78 + gn, c) B0 post := by
  refine sw_aload_n (dX9_order.at 0 rfl) rfl rfl ?_
  refine sw_iload_n (dX9_order.at 1 rfl) rfl rfl ?_
  refine sw_callV (B' := B0) (As := [vi (((x : Nat) : Int))]) (mc := 0) (ms := 0) (dX9_order.at 2 rfl) lk_X9_251 (S_lt 49 (by decide)) (S_49 nw nx g) rfl rfl (Nat.le_of_ble_eq_true rfl) rfl (Nat.le_refl _) (Nat.le_refl _) ?_
  refine c_X9_isElement (x := ((x : Nat) : Int)) (j := j + 1) hM hV hv.1 ?_
  replace hv := hv.2
  refine sw_if_ne (tgt := 11) (dX9_order.at 3 rfl) (by decide) (bz_rng _) (fun q => ?_) (fun q => ?_)
  · replace hv := hv.1 (bz_1 q)
    refine sw_iconst (dX9_order.at 6 rfl) ?_
    refine sw_istore_n (lo' := [some (vr (49)), some (vi (((x : Nat) : Int))), some (vi (1)), none]) (dX9_order.at 7 rfl) rfl (by decide) rfl ?_
    refine sw_iload_n (dX9_order.at 8 rfl) rfl rfl ?_
    refine sw_istore_n (lo' := [some (vr (49)), some (vi (((x : Nat) : Int))), some (vi (1)), some (vi (((x : Nat) : Int)))]) (dX9_order.at 9 rfl) rfl (by decide) rfl ?_
    exact hv
  · replace hv := hv.2 (bz_n1 q)
    refine sw_bipush (dX9_order.at 4 rfl) (by decide) ?_
    exact sw_iret (dX9_order.at 5 rfl) rfl (Nat.le_refl _) (Nat.le_refl _) hv

set_option maxHeartbeats 2000000 in
set_option maxRecDepth 20000 in
theorem g_X9_order_0 {G : GG} {j nw nx gn : Nat} {g : Nat → Sh} {c : Nat → Nat → Int} {post : Option AV → AM → Prop} {x : Int} {P : GD} (hM : ML c P) (hV : GV P) (hC : GC P) (hO : hOr P)  (hv : (-2147483648 ≤ x ∧ x < 2147483648) ∧ ((((decide (0 ≤ x ∧ x < (gN P : Int))) = true) → SW G (j + 3) mX9_order 15 [some (vr (49)), some (vi (x)), some (vi (1)), some (vi (x))] [] (S nw nx g, 78 + gn, c) B0 post) ∧ (((decide (0 ≤ x ∧ x < (gN P : Int))) = false) → post (some (vi ((-2)))) (S nw nx g, 78 + gn, c)))) :
    SW G (j + 3) mX9_order 0 [some (vr (49)), some (vi (x)), none, none] [] (S nw nx g, 78 + gn, c) B0 post := by
  refine sw_aload_n (dX9_order.at 0 rfl) rfl rfl ?_
  refine sw_iload_n (dX9_order.at 1 rfl) rfl rfl ?_
  refine sw_callV (B' := B0) (As := [vi (x)]) (mc := 0) (ms := 0) (dX9_order.at 2 rfl) lk_X9_251 (S_lt 49 (by decide)) (S_49 nw nx g) rfl rfl (Nat.le_of_ble_eq_true rfl) rfl (Nat.le_refl _) (Nat.le_refl _) ?_
  refine c_X9_isElement (x := x) (j := j + 1) hM hV hv.1 ?_
  replace hv := hv.2
  refine sw_if_ne (tgt := 11) (dX9_order.at 3 rfl) (by decide) (bz_rng _) (fun q => ?_) (fun q => ?_)
  · replace hv := hv.1 (bz_1 q)
    refine sw_iconst (dX9_order.at 6 rfl) ?_
    refine sw_istore_n (lo' := [some (vr (49)), some (vi (x)), some (vi (1)), none]) (dX9_order.at 7 rfl) rfl (by decide) rfl ?_
    refine sw_iload_n (dX9_order.at 8 rfl) rfl rfl ?_
    refine sw_istore_n (lo' := [some (vr (49)), some (vi (x)), some (vi (1)), some (vi (x))]) (dX9_order.at 9 rfl) rfl (by decide) rfl ?_
    exact hv
  · replace hv := hv.2 (bz_n1 q)
    refine sw_bipush (dX9_order.at 4 rfl) (by decide) ?_
    exact sw_iret (dX9_order.at 5 rfl) rfl (Nat.le_refl _) (Nat.le_refl _) hv

set_option maxHeartbeats 4000000 in
theorem c_X9_order {G : GG} {j nw nx gn : Nat} {g : Nat → Sh} {c : Nat → Nat → Int} {post : Option AV → AM → Prop} {P : GD} {x : Int} (hM : ML c P) (hV : GV P) (hC : GC P) (hO : hOr P) (p1 : -2147483648 ≤ x ∧ x < 2147483648) (K : ∀ c2 : Nat → Nat → Int, SC c c2 → post (some (vi (q_order P x))) (S nw nx g, 78 + gn, c2)) : SM G (j + 4) mX9_order [vr (49), vi (x)] (S nw nx g, 78 + gn, c) 0 0 post := by
  refine sm_of wX9_order rfl (Nat.le_of_ble_eq_true rfl) ?_
  have hN60 := GV_N hV
  have hR5 := GV_R hV
  by_cases hv : 0 ≤ x ∧ x < (gN P : Int)
  · obtain ⟨x, rfl⟩ : ∃ n : Nat, x = (n : Int) := ⟨x.toNat, by omega⟩
    have e : q_order P ((x : Nat) : Int) = ((ordF P x 59 0 : Nat) : Int) := by
      rw [q_order, if_pos hv]
      simp only [Int.toNat_natCast]
    rw [e] at K
    have K1 : ∀ (z : Int) (c2 : Nat → Nat → Int), (SC c c2) → z = (((ordF P x 59 0 : Nat) : Int)) → post (some (vi z)) (S nw nx g, 78 + gn, c2) := fun z c2 h e9 => e9 ▸ K c2 h
    have hx : x < gN P := by omega
    have fx := hV.2.2.1 x hx
    refine g_X9_order_0n hM hV hC hO ?_
    refine ⟨?_, ⟨fun q => ?_, fun q => ?_⟩⟩
    all_goals first | omega | assumption | (exfalso; simp only [decide_eq_true_eq, decide_eq_false_iff_not] at *; omega) | exact lp_X9_order_15 hM hV hC hx hO 59 0 c (by omega) (fun u hu => absurd hu (Nat.not_lt_zero u)) SC_rf K | exact K _ (by first | exact SC_rf | assumption | (refine SC_tr ?_ (by assumption); first | assumption | (refine SC_tr ?_ (by assumption); first | assumption | (refine SC_tr ?_ (by assumption); assumption)))) | (refine K1 _ _ (by first | exact SC_rf | assumption | (refine SC_tr ?_ (by assumption); first | assumption | (refine SC_tr ?_ (by assumption); first | assumption | (refine SC_tr ?_ (by assumption); assumption)))) ?_; first | rfl | (simp [bz, *]; done) | (split <;> first | rfl | omega))
  · have e : q_order P x = (-2) := by rw [q_order, if_neg hv]
    rw [e] at K
    have K1 : ∀ (z : Int) (c2 : Nat → Nat → Int), (SC c c2) → z = ((-2)) → post (some (vi z)) (S nw nx g, 78 + gn, c2) := fun z c2 h e9 => e9 ▸ K c2 h
    refine g_X9_order_0 hM hV hC hO ?_
    refine ⟨?_, ⟨fun q => ?_, fun q => ?_⟩⟩
    all_goals first | omega | assumption | (exfalso; simp only [decide_eq_true_eq, decide_eq_false_iff_not] at *; omega) | exact K _ (by first | exact SC_rf | assumption | (refine SC_tr ?_ (by assumption); first | assumption | (refine SC_tr ?_ (by assumption); first | assumption | (refine SC_tr ?_ (by assumption); assumption)))) | (refine K1 _ _ (by first | exact SC_rf | assumption | (refine SC_tr ?_ (by assumption); first | assumption | (refine SC_tr ?_ (by assumption); first | assumption | (refine SC_tr ?_ (by assumption); assumption)))) ?_; first | rfl | (simp [bz, *]; done) | (split <;> first | rfl | omega))

set_option maxHeartbeats 2000000 in
set_option maxRecDepth 20000 in
theorem g_X9_meet_19 {G : GG} {j nw nx gn : Nat} {g : Nat → Sh} {c : Nat → Nat → Int} {post : Option AV → AM → Prop} {x : Nat} {y : Nat} {sd : Nat} {P : GD} {z : Nat} {b : Nat} (hM : ML c P) (hV : GV P) (hC : GC P)  (hv : (z < 2147483648) ∧ (gN P < 2147483648) ∧ (((gN P ≤ z) → post (some (vi (((b : Nat) : Int)))) (S nw nx g, 78 + gn, c)) ∧ ((¬ (gN P ≤ z)) → (z < gN P) ∧ (x < gN P) ∧ (sd < 2) ∧ (∀ c_1 : Nat → Nat → Int, SC c c_1 → (((gWk P z x sd) = false) → SW G (j + 3) mX9_meet 19 [some (vr (49)), some (vi (((x : Nat) : Int))), some (vi (((y : Nat) : Int))), some (vi (((sd : Nat) : Int))), some (vi (((b : Nat) : Int))), some (vi (((z + 1 : Nat) : Int)))] [] (S nw nx g, 78 + gn, c_1) B0 post) ∧ (((gWk P z x sd) = true) → (z < gN P) ∧ (y < gN P) ∧ (sd < 2) ∧ (∀ c_2 : Nat → Nat → Int, SC c_1 c_2 → (((gWk P z y sd) = false) → SW G (j + 3) mX9_meet 19 [some (vr (49)), some (vi (((x : Nat) : Int))), some (vi (((y : Nat) : Int))), some (vi (((sd : Nat) : Int))), some (vi (((b : Nat) : Int))), some (vi (((z + 1 : Nat) : Int)))] [] (S nw nx g, 78 + gn, c_2) B0 post) ∧ (((gWk P z y sd) = true) → (z < gN P) ∧ ((b < gN P) ∧ ((gL P z < 2147483648) ∧ (gL P b < 2147483648) ∧ (((gL P z ≤ gL P b) → SW G (j + 3) mX9_meet 19 [some (vr (49)), some (vi (((x : Nat) : Int))), some (vi (((y : Nat) : Int))), some (vi (((sd : Nat) : Int))), some (vi (((b : Nat) : Int))), some (vi (((z + 1 : Nat) : Int)))] [] (S nw nx g, 78 + gn, c_2) B0 post) ∧ ((¬ (gL P z ≤ gL P b)) → SW G (j + 3) mX9_meet 19 [some (vr (49)), some (vi (((x : Nat) : Int))), some (vi (((y : Nat) : Int))), some (vi (((sd : Nat) : Int))), some (vi (((z : Nat) : Int))), some (vi (((z + 1 : Nat) : Int)))] [] (S nw nx g, 78 + gn, c_2) B0 post))))))))))) :
    SW G (j + 3) mX9_meet 19 [some (vr (49)), some (vi (((x : Nat) : Int))), some (vi (((y : Nat) : Int))), some (vi (((sd : Nat) : Int))), some (vi (((b : Nat) : Int))), some (vi (((z : Nat) : Int)))] [] (S nw nx g, 78 + gn, c) B0 post := by
  refine sw_iload (dX9_meet.at 12 rfl) rfl ?_
  refine sw_aload_n (dX9_meet.at 13 rfl) rfl rfl ?_
  refine sw_getIE (w := ((gN P : Nat) : Int)) (dX9_meet.at 14 rfl) fp_X9_196 (S_lt 49 (by decide)) (S_49 nw nx g) rfl hM.1.2.1 ?_
  refine sw_icmpN_ge z (gN P) (tgt := 82) (dX9_meet.at 15 rfl) (by decide) hv.1 hv.2.1 (fun q => ?_) (fun q => ?_)
  · replace hv := hv.2.2.1 q
    refine sw_iload (dX9_meet.at 43 rfl) rfl ?_
    exact sw_iret (dX9_meet.at 44 rfl) rfl (Nat.le_refl _) (Nat.le_refl _) hv
  · replace hv := hv.2.2.2 q
    refine sw_aload_n (dX9_meet.at 16 rfl) rfl rfl ?_
    refine sw_iload (dX9_meet.at 17 rfl) rfl ?_
    refine sw_iload_n (dX9_meet.at 18 rfl) rfl rfl ?_
    refine sw_iload_n (dX9_meet.at 19 rfl) rfl rfl ?_
    refine sw_callV (B' := B0) (As := [vi (((z : Nat) : Int)), vi (((x : Nat) : Int)), vi (((sd : Nat) : Int))]) (mc := 0) (ms := 0) (dX9_meet.at 20 rfl) lk_X9_378 (S_lt 49 (by decide)) (S_49 nw nx g) rfl rfl (Nat.le_of_ble_eq_true rfl) rfl (Nat.le_refl _) (Nat.le_refl _) ?_
    refine c_X9_isWeak (v := z) (w := x) (sd := sd) (j := j + 0) hM hV hC hv.1 hv.2.1 hv.2.2.1 (fun c_1 h_1 => ?_)
    replace hv := hv.2.2.2 c_1 h_1
    refine sw_if_eq (tgt := 72) (dX9_meet.at 21 rfl) (by decide) (bz_rng _) (fun q => ?_) (fun q => ?_)
    · replace hv := hv.1 (bz_0 q)
      refine sw_iload (dX9_meet.at 39 rfl) rfl ?_
      refine sw_istore (lo' := [some (vr (49)), some (vi (((x : Nat) : Int))), some (vi (((y : Nat) : Int))), some (vi (((sd : Nat) : Int))), some (vi (((b : Nat) : Int))), some (vi (((z : Nat) : Int)))]) (dX9_meet.at 40 rfl) (by decide) rfl ?_
      refine sw_iinc (lo' := [some (vr (49)), some (vi (((x : Nat) : Int))), some (vi (((y : Nat) : Int))), some (vi (((sd : Nat) : Int))), some (vi (((b : Nat) : Int))), some (vi (((z + 1 : Nat) : Int)))]) (dX9_meet.at 41 rfl) rfl (by decide) rfl ?_
      refine sw_goto (tgt := 19) (dX9_meet.at 42 rfl) (by decide) ?_
      exact hv
    · replace hv := hv.2 (bz_n0 q)
      refine sw_aload_n (dX9_meet.at 22 rfl) rfl rfl ?_
      refine sw_iload (dX9_meet.at 23 rfl) rfl ?_
      refine sw_iload_n (dX9_meet.at 24 rfl) rfl rfl ?_
      refine sw_iload_n (dX9_meet.at 25 rfl) rfl rfl ?_
      refine sw_callV (B' := B0) (As := [vi (((z : Nat) : Int)), vi (((y : Nat) : Int)), vi (((sd : Nat) : Int))]) (mc := 0) (ms := 0) (dX9_meet.at 26 rfl) lk_X9_378 (S_lt 49 (by decide)) (S_49 nw nx g) rfl rfl (Nat.le_of_ble_eq_true rfl) rfl (Nat.le_refl _) (Nat.le_refl _) ?_
      refine c_X9_isWeak (v := z) (w := y) (sd := sd) (j := j + 0) (ML_SC hM (SC_tr SC_rf h_1)) hV hC hv.1 hv.2.1 hv.2.2.1 (fun c_2 h_2 => ?_)
      replace hv := hv.2.2.2 c_2 h_2
      refine sw_if_eq (tgt := 72) (dX9_meet.at 27 rfl) (by decide) (bz_rng _) (fun q => ?_) (fun q => ?_)
      · replace hv := hv.1 (bz_0 q)
        refine sw_iload (dX9_meet.at 39 rfl) rfl ?_
        refine sw_istore (lo' := [some (vr (49)), some (vi (((x : Nat) : Int))), some (vi (((y : Nat) : Int))), some (vi (((sd : Nat) : Int))), some (vi (((b : Nat) : Int))), some (vi (((z : Nat) : Int)))]) (dX9_meet.at 40 rfl) (by decide) rfl ?_
        refine sw_iinc (lo' := [some (vr (49)), some (vi (((x : Nat) : Int))), some (vi (((y : Nat) : Int))), some (vi (((sd : Nat) : Int))), some (vi (((b : Nat) : Int))), some (vi (((z + 1 : Nat) : Int)))]) (dX9_meet.at 41 rfl) rfl (by decide) rfl ?_
        refine sw_goto (tgt := 19) (dX9_meet.at 42 rfl) (by decide) ?_
        exact hv
      · replace hv := hv.2 (bz_n0 q)
        refine sw_aload_n (dX9_meet.at 28 rfl) rfl rfl ?_
        refine sw_getR (dX9_meet.at 29 rfl) fp_X9_32 (S_lt 49 (by decide)) (S_49 nw nx g) rfl rfl ?_
        refine sw_iload (dX9_meet.at 30 rfl) rfl ?_
        refine sw_ialdN z (w := ((gL P z : Nat) : Int)) (dX9_meet.at 31 rfl) (S_lt 56 (by decide)) (S_56 nw nx g) (by decide) (GV_lt hV hv.1) (ML_L (ML_SC hM (SC_tr (SC_tr SC_rf h_1) h_2)) hv.1) ?_
        replace hv := hv.2
        refine sw_aload_n (dX9_meet.at 32 rfl) rfl rfl ?_
        refine sw_getR (dX9_meet.at 33 rfl) fp_X9_32 (S_lt 49 (by decide)) (S_49 nw nx g) rfl rfl ?_
        refine sw_iload (dX9_meet.at 34 rfl) rfl ?_
        refine sw_ialdN b (w := ((gL P b : Nat) : Int)) (dX9_meet.at 35 rfl) (S_lt 56 (by decide)) (S_56 nw nx g) (by decide) (GV_lt hV hv.1) (ML_L (ML_SC hM (SC_tr (SC_tr SC_rf h_1) h_2)) hv.1) ?_
        replace hv := hv.2
        refine sw_icmpN_le (gL P z) (gL P b) (tgt := 72) (dX9_meet.at 36 rfl) (by decide) hv.1 hv.2.1 (fun q => ?_) (fun q => ?_)
        · replace hv := hv.2.2.1 q
          refine sw_iload (dX9_meet.at 39 rfl) rfl ?_
          refine sw_istore (lo' := [some (vr (49)), some (vi (((x : Nat) : Int))), some (vi (((y : Nat) : Int))), some (vi (((sd : Nat) : Int))), some (vi (((b : Nat) : Int))), some (vi (((z : Nat) : Int)))]) (dX9_meet.at 40 rfl) (by decide) rfl ?_
          refine sw_iinc (lo' := [some (vr (49)), some (vi (((x : Nat) : Int))), some (vi (((y : Nat) : Int))), some (vi (((sd : Nat) : Int))), some (vi (((b : Nat) : Int))), some (vi (((z + 1 : Nat) : Int)))]) (dX9_meet.at 41 rfl) rfl (by decide) rfl ?_
          refine sw_goto (tgt := 19) (dX9_meet.at 42 rfl) (by decide) ?_
          exact hv
        · replace hv := hv.2.2.2 q
          refine sw_iload (dX9_meet.at 37 rfl) rfl ?_
          refine sw_goto (tgt := 74) (dX9_meet.at 38 rfl) (by decide) ?_
          refine sw_istore (lo' := [some (vr (49)), some (vi (((x : Nat) : Int))), some (vi (((y : Nat) : Int))), some (vi (((sd : Nat) : Int))), some (vi (((z : Nat) : Int))), some (vi (((z : Nat) : Int)))]) (dX9_meet.at 40 rfl) (by decide) rfl ?_
          refine sw_iinc (lo' := [some (vr (49)), some (vi (((x : Nat) : Int))), some (vi (((y : Nat) : Int))), some (vi (((sd : Nat) : Int))), some (vi (((z : Nat) : Int))), some (vi (((z + 1 : Nat) : Int)))]) (dX9_meet.at 41 rfl) rfl (by decide) rfl ?_
          refine sw_goto (tgt := 19) (dX9_meet.at 42 rfl) (by decide) ?_
          exact hv

set_option maxHeartbeats 4000000 in
theorem lp_X9_meet_19 {G : GG} {j nw nx gn : Nat} {g : Nat → Sh} {c : Nat → Nat → Int} {post : Option AV → AM → Prop} {P : GD} {x : Nat} {y : Nat} {sd : Nat} (hM : ML c P) (hV : GV P) (hC : GC P) (hx : x < gN P) (hy : y < gN P) (hsd : sd < 2) : ∀ (k : Nat) (z : Nat) (b : Nat) (d : Nat → Nat → Int), z + k = gN P → (b < gN P) → SC c d → (∀ c2 : Nat → Nat → Int, SC c c2 → post (some (vi (((mtF P x y sd k z b : Nat) : Int)))) (S nw nx g, 78 + gn, c2)) → SW G (j + 3) mX9_meet 19 [some (vr (49)), some (vi (((x : Nat) : Int))), some (vi (((y : Nat) : Int))), some (vi (((sd : Nat) : Int))), some (vi (((b : Nat) : Int))), some (vi (((z : Nat) : Int)))] [] (S nw nx g, 78 + gn, d) B0 post := by
  intro k
  induction k with
  | zero =>
    intro z b d hrel hb hd K
    have h60 := GV_N hV
    have l1 := (hV.2.2.1 b hb).1
    have l2 := fun h => (hV.2.2.1 z h).1
    simp only [mtF] at K
    refine g_X9_meet_19 (c := d) (ML_SC hM hd) hV hC ?_
    refine ⟨?_, ?_, ⟨fun q => ?_, fun q => ⟨?_, ?_, ?_, fun c_1 h_1 => ⟨fun q => ?_, fun q => ⟨?_, ?_, ?_, fun c_2 h_2 => ⟨fun q => ?_, fun q => ⟨?_, ⟨?_, ⟨?_, ?_, ⟨fun q => ?_, fun q => ?_⟩⟩⟩⟩⟩⟩⟩⟩⟩⟩
    all_goals first | omega | (exfalso; omega) | (have := l2 (by omega); omega) | (have h9 : gL P b < gL P z := (by omega); simp only [*, h9, decide_true, Bool.and_self, Bool.and_true, if_true] at K; exact ih _ _ _ (by omega) (by omega) (by first | exact SC_rf | assumption | (refine SC_tr ?_ (by assumption); first | assumption | (refine SC_tr ?_ (by assumption); first | assumption | (refine SC_tr ?_ (by assumption); assumption)))) K) | (have h9 : ¬ (gL P b < gL P z) := (by omega); simp only [*, h9, decide_false, Bool.and_false, Bool.false_eq_true, if_false] at K; exact ih _ _ _ (by omega) (by omega) (by first | exact SC_rf | assumption | (refine SC_tr ?_ (by assumption); first | assumption | (refine SC_tr ?_ (by assumption); first | assumption | (refine SC_tr ?_ (by assumption); assumption)))) K) | exact K _ (by first | exact SC_rf | assumption | (refine SC_tr ?_ (by assumption); first | assumption | (refine SC_tr ?_ (by assumption); first | assumption | (refine SC_tr ?_ (by assumption); assumption)))) | exact ih _ _ _ (by omega) (by first | assumption | omega) (by first | exact SC_rf | assumption | (refine SC_tr ?_ (by assumption); first | assumption | (refine SC_tr ?_ (by assumption); first | assumption | (refine SC_tr ?_ (by assumption); assumption)))) K | (simp only [*, if_true, if_false, ite_true, ite_false, Bool.false_eq_true, and_true, true_and, and_false, false_and, and_self, or_true, true_or, or_false, false_or, Bool.and_true, Bool.and_false, Bool.true_and, Bool.false_and, decide_true, decide_false, eq_self, not_true_eq_false, not_false_eq_true, ne_eq, reduceCtorEq] at K; first | exact K _ (by first | exact SC_rf | assumption | (refine SC_tr ?_ (by assumption); first | assumption | (refine SC_tr ?_ (by assumption); first | assumption | (refine SC_tr ?_ (by assumption); assumption)))) | exact ih _ _ _ (by omega) (by first | assumption | omega) (by first | exact SC_rf | assumption | (refine SC_tr ?_ (by assumption); first | assumption | (refine SC_tr ?_ (by assumption); first | assumption | (refine SC_tr ?_ (by assumption); assumption)))) K)
  | succ k ih =>
    intro z b d hrel hb hd K
    have h60 := GV_N hV
    have l1 := (hV.2.2.1 b hb).1
    have l2 := fun h => (hV.2.2.1 z h).1
    simp only [mtF] at K
    refine g_X9_meet_19 (c := d) (ML_SC hM hd) hV hC ?_
    refine ⟨?_, ?_, ⟨fun q => ?_, fun q => ⟨?_, ?_, ?_, fun c_1 h_1 => ⟨fun q => ?_, fun q => ⟨?_, ?_, ?_, fun c_2 h_2 => ⟨fun q => ?_, fun q => ⟨?_, ⟨?_, ⟨?_, ?_, ⟨fun q => ?_, fun q => ?_⟩⟩⟩⟩⟩⟩⟩⟩⟩⟩
    all_goals first | omega | assumption | (exfalso; omega) | (have := l2 (by omega); omega) | (have h9 : gL P b < gL P z := (by omega); simp only [*, h9, decide_true, Bool.and_self, Bool.and_true, if_true] at K; exact ih _ _ _ (by omega) (by omega) (by first | exact SC_rf | assumption | (refine SC_tr ?_ (by assumption); first | assumption | (refine SC_tr ?_ (by assumption); first | assumption | (refine SC_tr ?_ (by assumption); assumption)))) K) | (have h9 : ¬ (gL P b < gL P z) := (by omega); simp only [*, h9, decide_false, Bool.and_false, Bool.false_eq_true, if_false] at K; exact ih _ _ _ (by omega) (by omega) (by first | exact SC_rf | assumption | (refine SC_tr ?_ (by assumption); first | assumption | (refine SC_tr ?_ (by assumption); first | assumption | (refine SC_tr ?_ (by assumption); assumption)))) K) | (simp only [*, if_true, if_false, ite_true, ite_false, Bool.false_eq_true, and_true, true_and, and_false, false_and, and_self, or_true, true_or, or_false, false_or, Bool.and_true, Bool.and_false, Bool.true_and, Bool.false_and, decide_true, decide_false, eq_self, not_true_eq_false, not_false_eq_true, ne_eq, reduceCtorEq] at K; first | exact K _ (by first | exact SC_rf | assumption | (refine SC_tr ?_ (by assumption); first | assumption | (refine SC_tr ?_ (by assumption); first | assumption | (refine SC_tr ?_ (by assumption); assumption)))) | exact ih _ _ _ (by omega) (by first | assumption | omega) (by first | exact SC_rf | assumption | (refine SC_tr ?_ (by assumption); first | assumption | (refine SC_tr ?_ (by assumption); first | assumption | (refine SC_tr ?_ (by assumption); assumption)))) K) | exact K _ (by first | exact SC_rf | assumption | (refine SC_tr ?_ (by assumption); first | assumption | (refine SC_tr ?_ (by assumption); first | assumption | (refine SC_tr ?_ (by assumption); assumption)))) | exact ih _ _ _ (by omega) (by first | assumption | omega) (by first | exact SC_rf | assumption | (refine SC_tr ?_ (by assumption); first | assumption | (refine SC_tr ?_ (by assumption); first | assumption | (refine SC_tr ?_ (by assumption); assumption)))) K

set_option maxHeartbeats 2000000 in
set_option maxRecDepth 20000 in
theorem g_X9_meet_0n {G : GG} {j nw nx gn : Nat} {g : Nat → Sh} {c : Nat → Nat → Int} {post : Option AV → AM → Prop} {x : Nat} {y : Nat} {sd : Nat} {P : GD} (hM : ML c P) (hV : GV P) (hC : GC P) (hLt : hLa P)  (hv : (-2147483648 ≤ ((x : Nat) : Int) ∧ ((x : Nat) : Int) < 2147483648) ∧ (-2147483648 ≤ ((y : Nat) : Int) ∧ ((y : Nat) : Int) < 2147483648) ∧ (-2147483648 ≤ ((sd : Nat) : Int) ∧ ((sd : Nat) : Int) < 2147483648) ∧ ((((decide (((0 ≤ ((x : Nat) : Int) ∧ ((x : Nat) : Int) < (gN P : Int)) ∧ 0 ≤ ((y : Nat) : Int) ∧ ((y : Nat) : Int) < (gN P : Int)) ∧ 0 ≤ ((sd : Nat) : Int) ∧ ((sd : Nat) : Int) < 2)) = true) → SW G (j + 3) mX9_meet 19 [some (vr (49)), some (vi (((x : Nat) : Int))), some (vi (((y : Nat) : Int))), some (vi (((sd : Nat) : Int))), some (vi (0)), some (vi (0))] [] (S nw nx g, 78 + gn, c) B0 post) ∧ (((decide (((0 ≤ ((x : Nat) : Int) ∧ ((x : Nat) : Int) < (gN P : Int)) ∧ 0 ≤ ((y : Nat) : Int) ∧ ((y : Nat) : Int) < (gN P : Int)) ∧ 0 ≤ ((sd : Nat) : Int) ∧ ((sd : Nat) : Int) < 2)) = false) → post (some (vi ((-2)))) (S nw nx g, 78 + gn, c)))) :
    SW G (j + 3) mX9_meet 0 [some (vr (49)), some (vi (((x : Nat) : Int))), some (vi (((y : Nat) : Int))), some (vi (((sd : Nat) : Int))), none, none] [] (S nw nx g, 78 + gn, c) B0 post := by
  refine sw_aload_n (dX9_meet.at 0 rfl) rfl rfl ?_
  refine sw_iload_n (dX9_meet.at 1 rfl) rfl rfl ?_
  refine sw_iload_n (dX9_meet.at 2 rfl) rfl rfl ?_
  refine sw_iload_n (dX9_meet.at 3 rfl) rfl rfl ?_
  refine sw_callV (B' := B0) (As := [vi (((x : Nat) : Int)), vi (((y : Nat) : Int)), vi (((sd : Nat) : Int))]) (mc := 0) (ms := 0) (dX9_meet.at 4 rfl) lk_X9_375 (S_lt 49 (by decide)) (S_49 nw nx g) rfl rfl (Nat.le_of_ble_eq_true rfl) rfl (Nat.le_refl _) (Nat.le_refl _) ?_
  refine c_X9_isSided (x := ((x : Nat) : Int)) (y := ((y : Nat) : Int)) (z := ((sd : Nat) : Int)) (j := j + 0) hM hV hv.1 hv.2.1 hv.2.2.1 ?_
  replace hv := hv.2.2.2
  refine sw_if_ne (tgt := 13) (dX9_meet.at 5 rfl) (by decide) (bz_rng _) (fun q => ?_) (fun q => ?_)
  · replace hv := hv.1 (bz_1 q)
    refine sw_iconst (dX9_meet.at 8 rfl) ?_
    refine sw_istore (lo' := [some (vr (49)), some (vi (((x : Nat) : Int))), some (vi (((y : Nat) : Int))), some (vi (((sd : Nat) : Int))), some (vi (0)), none]) (dX9_meet.at 9 rfl) (by decide) rfl ?_
    refine sw_iconst (dX9_meet.at 10 rfl) ?_
    refine sw_istore (lo' := [some (vr (49)), some (vi (((x : Nat) : Int))), some (vi (((y : Nat) : Int))), some (vi (((sd : Nat) : Int))), some (vi (0)), some (vi (0))]) (dX9_meet.at 11 rfl) (by decide) rfl ?_
    exact hv
  · replace hv := hv.2 (bz_n1 q)
    refine sw_bipush (dX9_meet.at 6 rfl) (by decide) ?_
    exact sw_iret (dX9_meet.at 7 rfl) rfl (Nat.le_refl _) (Nat.le_refl _) hv

set_option maxHeartbeats 2000000 in
set_option maxRecDepth 20000 in
theorem g_X9_meet_0 {G : GG} {j nw nx gn : Nat} {g : Nat → Sh} {c : Nat → Nat → Int} {post : Option AV → AM → Prop} {x : Int} {y : Int} {sd : Int} {P : GD} (hM : ML c P) (hV : GV P) (hC : GC P) (hLt : hLa P)  (hv : (-2147483648 ≤ x ∧ x < 2147483648) ∧ (-2147483648 ≤ y ∧ y < 2147483648) ∧ (-2147483648 ≤ sd ∧ sd < 2147483648) ∧ ((((decide (((0 ≤ x ∧ x < (gN P : Int)) ∧ 0 ≤ y ∧ y < (gN P : Int)) ∧ 0 ≤ sd ∧ sd < 2)) = true) → SW G (j + 3) mX9_meet 19 [some (vr (49)), some (vi (x)), some (vi (y)), some (vi (sd)), some (vi (0)), some (vi (0))] [] (S nw nx g, 78 + gn, c) B0 post) ∧ (((decide (((0 ≤ x ∧ x < (gN P : Int)) ∧ 0 ≤ y ∧ y < (gN P : Int)) ∧ 0 ≤ sd ∧ sd < 2)) = false) → post (some (vi ((-2)))) (S nw nx g, 78 + gn, c)))) :
    SW G (j + 3) mX9_meet 0 [some (vr (49)), some (vi (x)), some (vi (y)), some (vi (sd)), none, none] [] (S nw nx g, 78 + gn, c) B0 post := by
  refine sw_aload_n (dX9_meet.at 0 rfl) rfl rfl ?_
  refine sw_iload_n (dX9_meet.at 1 rfl) rfl rfl ?_
  refine sw_iload_n (dX9_meet.at 2 rfl) rfl rfl ?_
  refine sw_iload_n (dX9_meet.at 3 rfl) rfl rfl ?_
  refine sw_callV (B' := B0) (As := [vi (x), vi (y), vi (sd)]) (mc := 0) (ms := 0) (dX9_meet.at 4 rfl) lk_X9_375 (S_lt 49 (by decide)) (S_49 nw nx g) rfl rfl (Nat.le_of_ble_eq_true rfl) rfl (Nat.le_refl _) (Nat.le_refl _) ?_
  refine c_X9_isSided (x := x) (y := y) (z := sd) (j := j + 0) hM hV hv.1 hv.2.1 hv.2.2.1 ?_
  replace hv := hv.2.2.2
  refine sw_if_ne (tgt := 13) (dX9_meet.at 5 rfl) (by decide) (bz_rng _) (fun q => ?_) (fun q => ?_)
  · replace hv := hv.1 (bz_1 q)
    refine sw_iconst (dX9_meet.at 8 rfl) ?_
    refine sw_istore (lo' := [some (vr (49)), some (vi (x)), some (vi (y)), some (vi (sd)), some (vi (0)), none]) (dX9_meet.at 9 rfl) (by decide) rfl ?_
    refine sw_iconst (dX9_meet.at 10 rfl) ?_
    refine sw_istore (lo' := [some (vr (49)), some (vi (x)), some (vi (y)), some (vi (sd)), some (vi (0)), some (vi (0))]) (dX9_meet.at 11 rfl) (by decide) rfl ?_
    exact hv
  · replace hv := hv.2 (bz_n1 q)
    refine sw_bipush (dX9_meet.at 6 rfl) (by decide) ?_
    exact sw_iret (dX9_meet.at 7 rfl) rfl (Nat.le_refl _) (Nat.le_refl _) hv

set_option maxHeartbeats 4000000 in
theorem c_X9_meet {G : GG} {j nw nx gn : Nat} {g : Nat → Sh} {c : Nat → Nat → Int} {post : Option AV → AM → Prop} {P : GD} {x y sd : Int} (hM : ML c P) (hV : GV P) (hC : GC P) (hLt : hLa P) (p1 : -2147483648 ≤ x ∧ x < 2147483648) (p2 : -2147483648 ≤ y ∧ y < 2147483648) (p3 : -2147483648 ≤ sd ∧ sd < 2147483648) (K : ∀ c2 : Nat → Nat → Int, SC c c2 → post (some (vi (q_meet P x y sd))) (S nw nx g, 78 + gn, c2)) : SM G (j + 4) mX9_meet [vr (49), vi (x), vi (y), vi (sd)] (S nw nx g, 78 + gn, c) 0 0 post := by
  refine sm_of wX9_meet rfl (Nat.le_of_ble_eq_true rfl) ?_
  have hN60 := GV_N hV
  have hR5 := GV_R hV
  by_cases hv : ((0 ≤ x ∧ x < (gN P : Int)) ∧ 0 ≤ y ∧ y < (gN P : Int)) ∧ 0 ≤ sd ∧ sd < 2
  · obtain ⟨x, rfl⟩ : ∃ n : Nat, x = (n : Int) := ⟨x.toNat, by omega⟩
    obtain ⟨y, rfl⟩ : ∃ n : Nat, y = (n : Int) := ⟨y.toNat, by omega⟩
    obtain ⟨sd, rfl⟩ : ∃ n : Nat, sd = (n : Int) := ⟨sd.toNat, by omega⟩
    have e : q_meet P ((x : Nat) : Int) ((y : Nat) : Int) ((sd : Nat) : Int) = ((meetF P x y sd (gN P - 1) : Nat) : Int) := by
      rw [q_meet, if_pos hv]
      simp only [Int.toNat_natCast]
    rw [e] at K
    have K1 : ∀ (z : Int) (c2 : Nat → Nat → Int), (SC c c2) → z = (((meetF P x y sd (gN P - 1) : Nat) : Int)) → post (some (vi z)) (S nw nx g, 78 + gn, c2) := fun z c2 h e9 => e9 ▸ K c2 h
    have hx : x < gN P := by omega
    have fx := hV.2.2.1 x hx
    have hy : y < gN P := by omega
    have fy := hV.2.2.1 y hy
    have l9 := hLt x y sd hx hy (by omega)
    refine g_X9_meet_0n hM hV hC hLt ?_
    refine ⟨?_, ?_, ?_, ⟨fun q => ?_, fun q => ?_⟩⟩
    all_goals first | omega | assumption | (exfalso; simp only [decide_eq_true_eq, decide_eq_false_iff_not] at *; omega) | exact lp_X9_meet_19 hM hV hC hx hy (by omega) (gN P) 0 0 c (by omega) (by omega) SC_rf (by rw [l9.1]; exact K) | exact K _ (by first | exact SC_rf | assumption | (refine SC_tr ?_ (by assumption); first | assumption | (refine SC_tr ?_ (by assumption); first | assumption | (refine SC_tr ?_ (by assumption); assumption)))) | (refine K1 _ _ (by first | exact SC_rf | assumption | (refine SC_tr ?_ (by assumption); first | assumption | (refine SC_tr ?_ (by assumption); first | assumption | (refine SC_tr ?_ (by assumption); assumption)))) ?_; first | rfl | (simp [bz, *]; done) | (split <;> first | rfl | omega))
  · have e : q_meet P x y sd = (-2) := by rw [q_meet, if_neg hv]
    rw [e] at K
    have K1 : ∀ (z : Int) (c2 : Nat → Nat → Int), (SC c c2) → z = ((-2)) → post (some (vi z)) (S nw nx g, 78 + gn, c2) := fun z c2 h e9 => e9 ▸ K c2 h
    refine g_X9_meet_0 hM hV hC hLt ?_
    refine ⟨?_, ?_, ?_, ⟨fun q => ?_, fun q => ?_⟩⟩
    all_goals first | omega | assumption | (exfalso; simp only [decide_eq_true_eq, decide_eq_false_iff_not] at *; omega) | exact K _ (by first | exact SC_rf | assumption | (refine SC_tr ?_ (by assumption); first | assumption | (refine SC_tr ?_ (by assumption); first | assumption | (refine SC_tr ?_ (by assumption); assumption)))) | (refine K1 _ _ (by first | exact SC_rf | assumption | (refine SC_tr ?_ (by assumption); first | assumption | (refine SC_tr ?_ (by assumption); first | assumption | (refine SC_tr ?_ (by assumption); assumption)))) ?_; first | rfl | (simp [bz, *]; done) | (split <;> first | rfl | omega))

set_option maxHeartbeats 2000000 in
set_option maxRecDepth 20000 in
theorem g_X9_join_22 {G : GG} {j nw nx gn : Nat} {g : Nat → Sh} {c : Nat → Nat → Int} {post : Option AV → AM → Prop} {x : Nat} {y : Nat} {sd : Nat} {P : GD} {z : Nat} {b : Nat} (hM : ML c P) (hV : GV P) (hC : GC P)  (hv : (z < 2147483648) ∧ (gN P < 2147483648) ∧ (((gN P ≤ z) → post (some (vi (((b : Nat) : Int)))) (S nw nx g, 78 + gn, c)) ∧ ((¬ (gN P ≤ z)) → (x < gN P) ∧ (z < gN P) ∧ (sd < 2) ∧ (∀ c_1 : Nat → Nat → Int, SC c c_1 → (((gWk P x z sd) = false) → SW G (j + 3) mX9_join 22 [some (vr (49)), some (vi (((x : Nat) : Int))), some (vi (((y : Nat) : Int))), some (vi (((sd : Nat) : Int))), some (vi (((b : Nat) : Int))), some (vi (((z + 1 : Nat) : Int)))] [] (S nw nx g, 78 + gn, c_1) B0 post) ∧ (((gWk P x z sd) = true) → (y < gN P) ∧ (z < gN P) ∧ (sd < 2) ∧ (∀ c_2 : Nat → Nat → Int, SC c_1 c_2 → (((gWk P y z sd) = false) → SW G (j + 3) mX9_join 22 [some (vr (49)), some (vi (((x : Nat) : Int))), some (vi (((y : Nat) : Int))), some (vi (((sd : Nat) : Int))), some (vi (((b : Nat) : Int))), some (vi (((z + 1 : Nat) : Int)))] [] (S nw nx g, 78 + gn, c_2) B0 post) ∧ (((gWk P y z sd) = true) → (z < gN P) ∧ ((b < gN P) ∧ ((gL P z < 2147483648) ∧ (gL P b < 2147483648) ∧ (((gL P b ≤ gL P z) → SW G (j + 3) mX9_join 22 [some (vr (49)), some (vi (((x : Nat) : Int))), some (vi (((y : Nat) : Int))), some (vi (((sd : Nat) : Int))), some (vi (((b : Nat) : Int))), some (vi (((z + 1 : Nat) : Int)))] [] (S nw nx g, 78 + gn, c_2) B0 post) ∧ ((¬ (gL P b ≤ gL P z)) → SW G (j + 3) mX9_join 22 [some (vr (49)), some (vi (((x : Nat) : Int))), some (vi (((y : Nat) : Int))), some (vi (((sd : Nat) : Int))), some (vi (((z : Nat) : Int))), some (vi (((z + 1 : Nat) : Int)))] [] (S nw nx g, 78 + gn, c_2) B0 post))))))))))) :
    SW G (j + 3) mX9_join 22 [some (vr (49)), some (vi (((x : Nat) : Int))), some (vi (((y : Nat) : Int))), some (vi (((sd : Nat) : Int))), some (vi (((b : Nat) : Int))), some (vi (((z : Nat) : Int)))] [] (S nw nx g, 78 + gn, c) B0 post := by
  refine sw_iload (dX9_join.at 13 rfl) rfl ?_
  refine sw_aload_n (dX9_join.at 14 rfl) rfl rfl ?_
  refine sw_getIE (w := ((gN P : Nat) : Int)) (dX9_join.at 15 rfl) fp_X9_196 (S_lt 49 (by decide)) (S_49 nw nx g) rfl hM.1.2.1 ?_
  refine sw_icmpN_ge z (gN P) (tgt := 85) (dX9_join.at 16 rfl) (by decide) hv.1 hv.2.1 (fun q => ?_) (fun q => ?_)
  · replace hv := hv.2.2.1 q
    refine sw_iload (dX9_join.at 44 rfl) rfl ?_
    exact sw_iret (dX9_join.at 45 rfl) rfl (Nat.le_refl _) (Nat.le_refl _) hv
  · replace hv := hv.2.2.2 q
    refine sw_aload_n (dX9_join.at 17 rfl) rfl rfl ?_
    refine sw_iload_n (dX9_join.at 18 rfl) rfl rfl ?_
    refine sw_iload (dX9_join.at 19 rfl) rfl ?_
    refine sw_iload_n (dX9_join.at 20 rfl) rfl rfl ?_
    refine sw_callV (B' := B0) (As := [vi (((x : Nat) : Int)), vi (((z : Nat) : Int)), vi (((sd : Nat) : Int))]) (mc := 0) (ms := 0) (dX9_join.at 21 rfl) lk_X9_378 (S_lt 49 (by decide)) (S_49 nw nx g) rfl rfl (Nat.le_of_ble_eq_true rfl) rfl (Nat.le_refl _) (Nat.le_refl _) ?_
    refine c_X9_isWeak (v := x) (w := z) (sd := sd) (j := j + 0) hM hV hC hv.1 hv.2.1 hv.2.2.1 (fun c_1 h_1 => ?_)
    replace hv := hv.2.2.2 c_1 h_1
    refine sw_if_eq (tgt := 75) (dX9_join.at 22 rfl) (by decide) (bz_rng _) (fun q => ?_) (fun q => ?_)
    · replace hv := hv.1 (bz_0 q)
      refine sw_iload (dX9_join.at 40 rfl) rfl ?_
      refine sw_istore (lo' := [some (vr (49)), some (vi (((x : Nat) : Int))), some (vi (((y : Nat) : Int))), some (vi (((sd : Nat) : Int))), some (vi (((b : Nat) : Int))), some (vi (((z : Nat) : Int)))]) (dX9_join.at 41 rfl) (by decide) rfl ?_
      refine sw_iinc (lo' := [some (vr (49)), some (vi (((x : Nat) : Int))), some (vi (((y : Nat) : Int))), some (vi (((sd : Nat) : Int))), some (vi (((b : Nat) : Int))), some (vi (((z + 1 : Nat) : Int)))]) (dX9_join.at 42 rfl) rfl (by decide) rfl ?_
      refine sw_goto (tgt := 22) (dX9_join.at 43 rfl) (by decide) ?_
      exact hv
    · replace hv := hv.2 (bz_n0 q)
      refine sw_aload_n (dX9_join.at 23 rfl) rfl rfl ?_
      refine sw_iload_n (dX9_join.at 24 rfl) rfl rfl ?_
      refine sw_iload (dX9_join.at 25 rfl) rfl ?_
      refine sw_iload_n (dX9_join.at 26 rfl) rfl rfl ?_
      refine sw_callV (B' := B0) (As := [vi (((y : Nat) : Int)), vi (((z : Nat) : Int)), vi (((sd : Nat) : Int))]) (mc := 0) (ms := 0) (dX9_join.at 27 rfl) lk_X9_378 (S_lt 49 (by decide)) (S_49 nw nx g) rfl rfl (Nat.le_of_ble_eq_true rfl) rfl (Nat.le_refl _) (Nat.le_refl _) ?_
      refine c_X9_isWeak (v := y) (w := z) (sd := sd) (j := j + 0) (ML_SC hM (SC_tr SC_rf h_1)) hV hC hv.1 hv.2.1 hv.2.2.1 (fun c_2 h_2 => ?_)
      replace hv := hv.2.2.2 c_2 h_2
      refine sw_if_eq (tgt := 75) (dX9_join.at 28 rfl) (by decide) (bz_rng _) (fun q => ?_) (fun q => ?_)
      · replace hv := hv.1 (bz_0 q)
        refine sw_iload (dX9_join.at 40 rfl) rfl ?_
        refine sw_istore (lo' := [some (vr (49)), some (vi (((x : Nat) : Int))), some (vi (((y : Nat) : Int))), some (vi (((sd : Nat) : Int))), some (vi (((b : Nat) : Int))), some (vi (((z : Nat) : Int)))]) (dX9_join.at 41 rfl) (by decide) rfl ?_
        refine sw_iinc (lo' := [some (vr (49)), some (vi (((x : Nat) : Int))), some (vi (((y : Nat) : Int))), some (vi (((sd : Nat) : Int))), some (vi (((b : Nat) : Int))), some (vi (((z + 1 : Nat) : Int)))]) (dX9_join.at 42 rfl) rfl (by decide) rfl ?_
        refine sw_goto (tgt := 22) (dX9_join.at 43 rfl) (by decide) ?_
        exact hv
      · replace hv := hv.2 (bz_n0 q)
        refine sw_aload_n (dX9_join.at 29 rfl) rfl rfl ?_
        refine sw_getR (dX9_join.at 30 rfl) fp_X9_32 (S_lt 49 (by decide)) (S_49 nw nx g) rfl rfl ?_
        refine sw_iload (dX9_join.at 31 rfl) rfl ?_
        refine sw_ialdN z (w := ((gL P z : Nat) : Int)) (dX9_join.at 32 rfl) (S_lt 56 (by decide)) (S_56 nw nx g) (by decide) (GV_lt hV hv.1) (ML_L (ML_SC hM (SC_tr (SC_tr SC_rf h_1) h_2)) hv.1) ?_
        replace hv := hv.2
        refine sw_aload_n (dX9_join.at 33 rfl) rfl rfl ?_
        refine sw_getR (dX9_join.at 34 rfl) fp_X9_32 (S_lt 49 (by decide)) (S_49 nw nx g) rfl rfl ?_
        refine sw_iload (dX9_join.at 35 rfl) rfl ?_
        refine sw_ialdN b (w := ((gL P b : Nat) : Int)) (dX9_join.at 36 rfl) (S_lt 56 (by decide)) (S_56 nw nx g) (by decide) (GV_lt hV hv.1) (ML_L (ML_SC hM (SC_tr (SC_tr SC_rf h_1) h_2)) hv.1) ?_
        replace hv := hv.2
        refine sw_icmpN_ge (gL P z) (gL P b) (tgt := 75) (dX9_join.at 37 rfl) (by decide) hv.1 hv.2.1 (fun q => ?_) (fun q => ?_)
        · replace hv := hv.2.2.1 q
          refine sw_iload (dX9_join.at 40 rfl) rfl ?_
          refine sw_istore (lo' := [some (vr (49)), some (vi (((x : Nat) : Int))), some (vi (((y : Nat) : Int))), some (vi (((sd : Nat) : Int))), some (vi (((b : Nat) : Int))), some (vi (((z : Nat) : Int)))]) (dX9_join.at 41 rfl) (by decide) rfl ?_
          refine sw_iinc (lo' := [some (vr (49)), some (vi (((x : Nat) : Int))), some (vi (((y : Nat) : Int))), some (vi (((sd : Nat) : Int))), some (vi (((b : Nat) : Int))), some (vi (((z + 1 : Nat) : Int)))]) (dX9_join.at 42 rfl) rfl (by decide) rfl ?_
          refine sw_goto (tgt := 22) (dX9_join.at 43 rfl) (by decide) ?_
          exact hv
        · replace hv := hv.2.2.2 q
          refine sw_iload (dX9_join.at 38 rfl) rfl ?_
          refine sw_goto (tgt := 77) (dX9_join.at 39 rfl) (by decide) ?_
          refine sw_istore (lo' := [some (vr (49)), some (vi (((x : Nat) : Int))), some (vi (((y : Nat) : Int))), some (vi (((sd : Nat) : Int))), some (vi (((z : Nat) : Int))), some (vi (((z : Nat) : Int)))]) (dX9_join.at 41 rfl) (by decide) rfl ?_
          refine sw_iinc (lo' := [some (vr (49)), some (vi (((x : Nat) : Int))), some (vi (((y : Nat) : Int))), some (vi (((sd : Nat) : Int))), some (vi (((z : Nat) : Int))), some (vi (((z + 1 : Nat) : Int)))]) (dX9_join.at 42 rfl) rfl (by decide) rfl ?_
          refine sw_goto (tgt := 22) (dX9_join.at 43 rfl) (by decide) ?_
          exact hv

set_option maxHeartbeats 4000000 in
theorem lp_X9_join_22 {G : GG} {j nw nx gn : Nat} {g : Nat → Sh} {c : Nat → Nat → Int} {post : Option AV → AM → Prop} {P : GD} {x : Nat} {y : Nat} {sd : Nat} (hM : ML c P) (hV : GV P) (hC : GC P) (hx : x < gN P) (hy : y < gN P) (hsd : sd < 2) : ∀ (k : Nat) (z : Nat) (b : Nat) (d : Nat → Nat → Int), z + k = gN P → (b < gN P) → SC c d → (∀ c2 : Nat → Nat → Int, SC c c2 → post (some (vi (((jnF P x y sd k z b : Nat) : Int)))) (S nw nx g, 78 + gn, c2)) → SW G (j + 3) mX9_join 22 [some (vr (49)), some (vi (((x : Nat) : Int))), some (vi (((y : Nat) : Int))), some (vi (((sd : Nat) : Int))), some (vi (((b : Nat) : Int))), some (vi (((z : Nat) : Int)))] [] (S nw nx g, 78 + gn, d) B0 post := by
  intro k
  induction k with
  | zero =>
    intro z b d hrel hb hd K
    have h60 := GV_N hV
    have l1 := (hV.2.2.1 b hb).1
    have l2 := fun h => (hV.2.2.1 z h).1
    simp only [jnF] at K
    refine g_X9_join_22 (c := d) (ML_SC hM hd) hV hC ?_
    refine ⟨?_, ?_, ⟨fun q => ?_, fun q => ⟨?_, ?_, ?_, fun c_1 h_1 => ⟨fun q => ?_, fun q => ⟨?_, ?_, ?_, fun c_2 h_2 => ⟨fun q => ?_, fun q => ⟨?_, ⟨?_, ⟨?_, ?_, ⟨fun q => ?_, fun q => ?_⟩⟩⟩⟩⟩⟩⟩⟩⟩⟩
    all_goals first | omega | (exfalso; omega) | (have := l2 (by omega); omega) | (have h9 : gL P z < gL P b := (by omega); simp only [*, h9, decide_true, Bool.and_self, Bool.and_true, if_true] at K; exact ih _ _ _ (by omega) (by omega) (by first | exact SC_rf | assumption | (refine SC_tr ?_ (by assumption); first | assumption | (refine SC_tr ?_ (by assumption); first | assumption | (refine SC_tr ?_ (by assumption); assumption)))) K) | (have h9 : ¬ (gL P z < gL P b) := (by omega); simp only [*, h9, decide_false, Bool.and_false, Bool.false_eq_true, if_false] at K; exact ih _ _ _ (by omega) (by omega) (by first | exact SC_rf | assumption | (refine SC_tr ?_ (by assumption); first | assumption | (refine SC_tr ?_ (by assumption); first | assumption | (refine SC_tr ?_ (by assumption); assumption)))) K) | exact K _ (by first | exact SC_rf | assumption | (refine SC_tr ?_ (by assumption); first | assumption | (refine SC_tr ?_ (by assumption); first | assumption | (refine SC_tr ?_ (by assumption); assumption)))) | exact ih _ _ _ (by omega) (by first | assumption | omega) (by first | exact SC_rf | assumption | (refine SC_tr ?_ (by assumption); first | assumption | (refine SC_tr ?_ (by assumption); first | assumption | (refine SC_tr ?_ (by assumption); assumption)))) K | (simp only [*, if_true, if_false, ite_true, ite_false, Bool.false_eq_true, and_true, true_and, and_false, false_and, and_self, or_true, true_or, or_false, false_or, Bool.and_true, Bool.and_false, Bool.true_and, Bool.false_and, decide_true, decide_false, eq_self, not_true_eq_false, not_false_eq_true, ne_eq, reduceCtorEq] at K; first | exact K _ (by first | exact SC_rf | assumption | (refine SC_tr ?_ (by assumption); first | assumption | (refine SC_tr ?_ (by assumption); first | assumption | (refine SC_tr ?_ (by assumption); assumption)))) | exact ih _ _ _ (by omega) (by first | assumption | omega) (by first | exact SC_rf | assumption | (refine SC_tr ?_ (by assumption); first | assumption | (refine SC_tr ?_ (by assumption); first | assumption | (refine SC_tr ?_ (by assumption); assumption)))) K)
  | succ k ih =>
    intro z b d hrel hb hd K
    have h60 := GV_N hV
    have l1 := (hV.2.2.1 b hb).1
    have l2 := fun h => (hV.2.2.1 z h).1
    simp only [jnF] at K
    refine g_X9_join_22 (c := d) (ML_SC hM hd) hV hC ?_
    refine ⟨?_, ?_, ⟨fun q => ?_, fun q => ⟨?_, ?_, ?_, fun c_1 h_1 => ⟨fun q => ?_, fun q => ⟨?_, ?_, ?_, fun c_2 h_2 => ⟨fun q => ?_, fun q => ⟨?_, ⟨?_, ⟨?_, ?_, ⟨fun q => ?_, fun q => ?_⟩⟩⟩⟩⟩⟩⟩⟩⟩⟩
    all_goals first | omega | assumption | (exfalso; omega) | (have := l2 (by omega); omega) | (have h9 : gL P z < gL P b := (by omega); simp only [*, h9, decide_true, Bool.and_self, Bool.and_true, if_true] at K; exact ih _ _ _ (by omega) (by omega) (by first | exact SC_rf | assumption | (refine SC_tr ?_ (by assumption); first | assumption | (refine SC_tr ?_ (by assumption); first | assumption | (refine SC_tr ?_ (by assumption); assumption)))) K) | (have h9 : ¬ (gL P z < gL P b) := (by omega); simp only [*, h9, decide_false, Bool.and_false, Bool.false_eq_true, if_false] at K; exact ih _ _ _ (by omega) (by omega) (by first | exact SC_rf | assumption | (refine SC_tr ?_ (by assumption); first | assumption | (refine SC_tr ?_ (by assumption); first | assumption | (refine SC_tr ?_ (by assumption); assumption)))) K) | (simp only [*, if_true, if_false, ite_true, ite_false, Bool.false_eq_true, and_true, true_and, and_false, false_and, and_self, or_true, true_or, or_false, false_or, Bool.and_true, Bool.and_false, Bool.true_and, Bool.false_and, decide_true, decide_false, eq_self, not_true_eq_false, not_false_eq_true, ne_eq, reduceCtorEq] at K; first | exact K _ (by first | exact SC_rf | assumption | (refine SC_tr ?_ (by assumption); first | assumption | (refine SC_tr ?_ (by assumption); first | assumption | (refine SC_tr ?_ (by assumption); assumption)))) | exact ih _ _ _ (by omega) (by first | assumption | omega) (by first | exact SC_rf | assumption | (refine SC_tr ?_ (by assumption); first | assumption | (refine SC_tr ?_ (by assumption); first | assumption | (refine SC_tr ?_ (by assumption); assumption)))) K) | exact K _ (by first | exact SC_rf | assumption | (refine SC_tr ?_ (by assumption); first | assumption | (refine SC_tr ?_ (by assumption); first | assumption | (refine SC_tr ?_ (by assumption); assumption)))) | exact ih _ _ _ (by omega) (by first | assumption | omega) (by first | exact SC_rf | assumption | (refine SC_tr ?_ (by assumption); first | assumption | (refine SC_tr ?_ (by assumption); first | assumption | (refine SC_tr ?_ (by assumption); assumption)))) K

set_option maxHeartbeats 2000000 in
set_option maxRecDepth 20000 in
theorem g_X9_join_0n {G : GG} {j nw nx gn : Nat} {g : Nat → Sh} {c : Nat → Nat → Int} {post : Option AV → AM → Prop} {x : Nat} {y : Nat} {sd : Nat} {P : GD} (hM : ML c P) (hV : GV P) (hC : GC P) (hLt : hLa P)  (hv : (-2147483648 ≤ ((x : Nat) : Int) ∧ ((x : Nat) : Int) < 2147483648) ∧ (-2147483648 ≤ ((y : Nat) : Int) ∧ ((y : Nat) : Int) < 2147483648) ∧ (-2147483648 ≤ ((sd : Nat) : Int) ∧ ((sd : Nat) : Int) < 2147483648) ∧ ((((decide (((0 ≤ ((x : Nat) : Int) ∧ ((x : Nat) : Int) < (gN P : Int)) ∧ 0 ≤ ((y : Nat) : Int) ∧ ((y : Nat) : Int) < (gN P : Int)) ∧ 0 ≤ ((sd : Nat) : Int) ∧ ((sd : Nat) : Int) < 2)) = true) → SW G (j + 3) mX9_join 22 [some (vr (49)), some (vi (((x : Nat) : Int))), some (vi (((y : Nat) : Int))), some (vi (((sd : Nat) : Int))), some (vi (((gN P - 1 : Nat) : Int))), some (vi (0))] [] (S nw nx g, 78 + gn, c) B0 post) ∧ (((decide (((0 ≤ ((x : Nat) : Int) ∧ ((x : Nat) : Int) < (gN P : Int)) ∧ 0 ≤ ((y : Nat) : Int) ∧ ((y : Nat) : Int) < (gN P : Int)) ∧ 0 ≤ ((sd : Nat) : Int) ∧ ((sd : Nat) : Int) < 2)) = false) → post (some (vi ((-2)))) (S nw nx g, 78 + gn, c)))) :
    SW G (j + 3) mX9_join 0 [some (vr (49)), some (vi (((x : Nat) : Int))), some (vi (((y : Nat) : Int))), some (vi (((sd : Nat) : Int))), none, none] [] (S nw nx g, 78 + gn, c) B0 post := by
  refine sw_aload_n (dX9_join.at 0 rfl) rfl rfl ?_
  refine sw_iload_n (dX9_join.at 1 rfl) rfl rfl ?_
  refine sw_iload_n (dX9_join.at 2 rfl) rfl rfl ?_
  refine sw_iload_n (dX9_join.at 3 rfl) rfl rfl ?_
  refine sw_callV (B' := B0) (As := [vi (((x : Nat) : Int)), vi (((y : Nat) : Int)), vi (((sd : Nat) : Int))]) (mc := 0) (ms := 0) (dX9_join.at 4 rfl) lk_X9_375 (S_lt 49 (by decide)) (S_49 nw nx g) rfl rfl (Nat.le_of_ble_eq_true rfl) rfl (Nat.le_refl _) (Nat.le_refl _) ?_
  refine c_X9_isSided (x := ((x : Nat) : Int)) (y := ((y : Nat) : Int)) (z := ((sd : Nat) : Int)) (j := j + 0) hM hV hv.1 hv.2.1 hv.2.2.1 ?_
  replace hv := hv.2.2.2
  refine sw_if_ne (tgt := 13) (dX9_join.at 5 rfl) (by decide) (bz_rng _) (fun q => ?_) (fun q => ?_)
  · replace hv := hv.1 (bz_1 q)
    refine sw_aload_n (dX9_join.at 8 rfl) rfl rfl ?_
    refine sw_getIE (w := ((gN P - 1 : Nat) : Int)) (dX9_join.at 9 rfl) fp_X9_218 (S_lt 49 (by decide)) (S_49 nw nx g) rfl hM.1.2.2.2.1 ?_
    refine sw_istore (lo' := [some (vr (49)), some (vi (((x : Nat) : Int))), some (vi (((y : Nat) : Int))), some (vi (((sd : Nat) : Int))), some (vi (((gN P - 1 : Nat) : Int))), none]) (dX9_join.at 10 rfl) (by decide) rfl ?_
    refine sw_iconst (dX9_join.at 11 rfl) ?_
    refine sw_istore (lo' := [some (vr (49)), some (vi (((x : Nat) : Int))), some (vi (((y : Nat) : Int))), some (vi (((sd : Nat) : Int))), some (vi (((gN P - 1 : Nat) : Int))), some (vi (0))]) (dX9_join.at 12 rfl) (by decide) rfl ?_
    exact hv
  · replace hv := hv.2 (bz_n1 q)
    refine sw_bipush (dX9_join.at 6 rfl) (by decide) ?_
    exact sw_iret (dX9_join.at 7 rfl) rfl (Nat.le_refl _) (Nat.le_refl _) hv

set_option maxHeartbeats 2000000 in
set_option maxRecDepth 20000 in
theorem g_X9_join_0 {G : GG} {j nw nx gn : Nat} {g : Nat → Sh} {c : Nat → Nat → Int} {post : Option AV → AM → Prop} {x : Int} {y : Int} {sd : Int} {P : GD} (hM : ML c P) (hV : GV P) (hC : GC P) (hLt : hLa P)  (hv : (-2147483648 ≤ x ∧ x < 2147483648) ∧ (-2147483648 ≤ y ∧ y < 2147483648) ∧ (-2147483648 ≤ sd ∧ sd < 2147483648) ∧ ((((decide (((0 ≤ x ∧ x < (gN P : Int)) ∧ 0 ≤ y ∧ y < (gN P : Int)) ∧ 0 ≤ sd ∧ sd < 2)) = true) → SW G (j + 3) mX9_join 22 [some (vr (49)), some (vi (x)), some (vi (y)), some (vi (sd)), some (vi (((gN P - 1 : Nat) : Int))), some (vi (0))] [] (S nw nx g, 78 + gn, c) B0 post) ∧ (((decide (((0 ≤ x ∧ x < (gN P : Int)) ∧ 0 ≤ y ∧ y < (gN P : Int)) ∧ 0 ≤ sd ∧ sd < 2)) = false) → post (some (vi ((-2)))) (S nw nx g, 78 + gn, c)))) :
    SW G (j + 3) mX9_join 0 [some (vr (49)), some (vi (x)), some (vi (y)), some (vi (sd)), none, none] [] (S nw nx g, 78 + gn, c) B0 post := by
  refine sw_aload_n (dX9_join.at 0 rfl) rfl rfl ?_
  refine sw_iload_n (dX9_join.at 1 rfl) rfl rfl ?_
  refine sw_iload_n (dX9_join.at 2 rfl) rfl rfl ?_
  refine sw_iload_n (dX9_join.at 3 rfl) rfl rfl ?_
  refine sw_callV (B' := B0) (As := [vi (x), vi (y), vi (sd)]) (mc := 0) (ms := 0) (dX9_join.at 4 rfl) lk_X9_375 (S_lt 49 (by decide)) (S_49 nw nx g) rfl rfl (Nat.le_of_ble_eq_true rfl) rfl (Nat.le_refl _) (Nat.le_refl _) ?_
  refine c_X9_isSided (x := x) (y := y) (z := sd) (j := j + 0) hM hV hv.1 hv.2.1 hv.2.2.1 ?_
  replace hv := hv.2.2.2
  refine sw_if_ne (tgt := 13) (dX9_join.at 5 rfl) (by decide) (bz_rng _) (fun q => ?_) (fun q => ?_)
  · replace hv := hv.1 (bz_1 q)
    refine sw_aload_n (dX9_join.at 8 rfl) rfl rfl ?_
    refine sw_getIE (w := ((gN P - 1 : Nat) : Int)) (dX9_join.at 9 rfl) fp_X9_218 (S_lt 49 (by decide)) (S_49 nw nx g) rfl hM.1.2.2.2.1 ?_
    refine sw_istore (lo' := [some (vr (49)), some (vi (x)), some (vi (y)), some (vi (sd)), some (vi (((gN P - 1 : Nat) : Int))), none]) (dX9_join.at 10 rfl) (by decide) rfl ?_
    refine sw_iconst (dX9_join.at 11 rfl) ?_
    refine sw_istore (lo' := [some (vr (49)), some (vi (x)), some (vi (y)), some (vi (sd)), some (vi (((gN P - 1 : Nat) : Int))), some (vi (0))]) (dX9_join.at 12 rfl) (by decide) rfl ?_
    exact hv
  · replace hv := hv.2 (bz_n1 q)
    refine sw_bipush (dX9_join.at 6 rfl) (by decide) ?_
    exact sw_iret (dX9_join.at 7 rfl) rfl (Nat.le_refl _) (Nat.le_refl _) hv

set_option maxHeartbeats 4000000 in
theorem c_X9_join {G : GG} {j nw nx gn : Nat} {g : Nat → Sh} {c : Nat → Nat → Int} {post : Option AV → AM → Prop} {P : GD} {x y sd : Int} (hM : ML c P) (hV : GV P) (hC : GC P) (hLt : hLa P) (p1 : -2147483648 ≤ x ∧ x < 2147483648) (p2 : -2147483648 ≤ y ∧ y < 2147483648) (p3 : -2147483648 ≤ sd ∧ sd < 2147483648) (K : ∀ c2 : Nat → Nat → Int, SC c c2 → post (some (vi (q_join P x y sd))) (S nw nx g, 78 + gn, c2)) : SM G (j + 4) mX9_join [vr (49), vi (x), vi (y), vi (sd)] (S nw nx g, 78 + gn, c) 0 0 post := by
  refine sm_of wX9_join rfl (Nat.le_of_ble_eq_true rfl) ?_
  have hN60 := GV_N hV
  have hR5 := GV_R hV
  by_cases hv : ((0 ≤ x ∧ x < (gN P : Int)) ∧ 0 ≤ y ∧ y < (gN P : Int)) ∧ 0 ≤ sd ∧ sd < 2
  · obtain ⟨x, rfl⟩ : ∃ n : Nat, x = (n : Int) := ⟨x.toNat, by omega⟩
    obtain ⟨y, rfl⟩ : ∃ n : Nat, y = (n : Int) := ⟨y.toNat, by omega⟩
    obtain ⟨sd, rfl⟩ : ∃ n : Nat, sd = (n : Int) := ⟨sd.toNat, by omega⟩
    have e : q_join P ((x : Nat) : Int) ((y : Nat) : Int) ((sd : Nat) : Int) = ((joinF P x y sd (gN P - 1) 0 : Nat) : Int) := by
      rw [q_join, if_pos hv]
      simp only [Int.toNat_natCast]
    rw [e] at K
    have K1 : ∀ (z : Int) (c2 : Nat → Nat → Int), (SC c c2) → z = (((joinF P x y sd (gN P - 1) 0 : Nat) : Int)) → post (some (vi z)) (S nw nx g, 78 + gn, c2) := fun z c2 h e9 => e9 ▸ K c2 h
    have hx : x < gN P := by omega
    have fx := hV.2.2.1 x hx
    have hy : y < gN P := by omega
    have fy := hV.2.2.1 y hy
    have l9 := hLt x y sd hx hy (by omega)
    refine g_X9_join_0n hM hV hC hLt ?_
    refine ⟨?_, ?_, ?_, ⟨fun q => ?_, fun q => ?_⟩⟩
    all_goals first | omega | assumption | (exfalso; simp only [decide_eq_true_eq, decide_eq_false_iff_not] at *; omega) | exact lp_X9_join_22 hM hV hC hx hy (by omega) (gN P) 0 (gN P - 1) c (by omega) (by omega) SC_rf (by rw [l9.2]; exact K) | exact K _ (by first | exact SC_rf | assumption | (refine SC_tr ?_ (by assumption); first | assumption | (refine SC_tr ?_ (by assumption); first | assumption | (refine SC_tr ?_ (by assumption); assumption)))) | (refine K1 _ _ (by first | exact SC_rf | assumption | (refine SC_tr ?_ (by assumption); first | assumption | (refine SC_tr ?_ (by assumption); first | assumption | (refine SC_tr ?_ (by assumption); assumption)))) ?_; first | rfl | (simp [bz, *]; done) | (split <;> first | rfl | omega))
  · have e : q_join P x y sd = (-2) := by rw [q_join, if_neg hv]
    rw [e] at K
    have K1 : ∀ (z : Int) (c2 : Nat → Nat → Int), (SC c c2) → z = ((-2)) → post (some (vi z)) (S nw nx g, 78 + gn, c2) := fun z c2 h e9 => e9 ▸ K c2 h
    refine g_X9_join_0 hM hV hC hLt ?_
    refine ⟨?_, ?_, ?_, ⟨fun q => ?_, fun q => ?_⟩⟩
    all_goals first | omega | assumption | (exfalso; simp only [decide_eq_true_eq, decide_eq_false_iff_not] at *; omega) | exact K _ (by first | exact SC_rf | assumption | (refine SC_tr ?_ (by assumption); first | assumption | (refine SC_tr ?_ (by assumption); first | assumption | (refine SC_tr ?_ (by assumption); assumption)))) | (refine K1 _ _ (by first | exact SC_rf | assumption | (refine SC_tr ?_ (by assumption); first | assumption | (refine SC_tr ?_ (by assumption); first | assumption | (refine SC_tr ?_ (by assumption); assumption)))) ?_; first | rfl | (simp [bz, *]; done) | (split <;> first | rfl | omega))

