def q_letter (P : GD) (x i : Int) : Int := if 0 ≤ x ∧ x < (gN P : Int) ∧ 0 ≤ i then if i.toNat < gL P x.toNat then ((gLet P x.toNat i.toNat : Nat) : Int) else (-1) else (-2)
set_option maxHeartbeats 2000000 in
set_option maxRecDepth 20000 in
theorem g_X8_letter_0n {G : GG} {j nw nx gn : Nat} {g : Nat → Sh} {c : Nat → Nat → Int} {post : Option AV → AM → Prop} {x : Nat} {i : Nat} {P : GD} (hnw : nw = 21 ∨ nw = 35) (hE : EL c nw P) (hV : GV P)  (hv : (-2147483648 ≤ ((x : Nat) : Int) ∧ ((x : Nat) : Int) < 2147483648) ∧ ((((decide (0 ≤ ((x : Nat) : Int) ∧ ((x : Nat) : Int) < (gN P : Int))) = false) → post (some (vi ((-2)))) (S nw nx g, 78 + gn, c)) ∧ (((decide (0 ≤ ((x : Nat) : Int) ∧ ((x : Nat) : Int) < (gN P : Int))) = true) → (i < 2147483648) ∧ (((0 ≤ ((i : Nat) : Int)) → (x < gN P) ∧ ((i < 2147483648) ∧ (gL P x < 2147483648) ∧ (((gL P x ≤ i) → post (some (vi ((-1)))) (S nw nx g, 78 + gn, c)) ∧ ((¬ (gL P x ≤ i)) → (x < gN P) ∧ (i < gL P x) ∧ (post (some (vi (((gLet P x i : Nat) : Int)))) (S nw nx g, 78 + gn, c)))))) ∧ ((¬ (0 ≤ ((i : Nat) : Int))) → post (some (vi ((-2)))) (S nw nx g, 78 + gn, c)))))) :
    SW G (j + 1) mX8_letter 0 [some (vr (0)), some (vi (((x : Nat) : Int))), some (vi (((i : Nat) : Int)))] [] (S nw nx g, 78 + gn, c) B0 post := by
  refine sw_aload_n (dX8_letter.at 0 rfl) rfl rfl ?_
  refine sw_iload_n (dX8_letter.at 1 rfl) rfl rfl ?_
  refine sw_callV (B' := B0) (As := [vi (((x : Nat) : Int))]) (mc := 0) (ms := 0) (dX8_letter.at 2 rfl) lk_X8_130 (S_lt 0 (by decide)) (S_0 nw nx g) rfl rfl (Nat.le_of_ble_eq_true rfl) rfl (Nat.le_refl _) (Nat.le_refl _) ?_
  refine c_X8_isElementP (x := ((x : Nat) : Int)) (j := j + 0) hnw hE hV hv.1 ?_
  replace hv := hv.2
  refine sw_if_eq (tgt := 12) (dX8_letter.at 3 rfl) (by decide) (bz_rng _) (fun q => ?_) (fun q => ?_)
  · replace hv := hv.1 (bz_0 q)
    refine sw_bipush (dX8_letter.at 6 rfl) (by decide) ?_
    exact sw_iret (dX8_letter.at 7 rfl) rfl (Nat.le_refl _) (Nat.le_refl _) hv
  · replace hv := hv.2 (bz_n0 q)
    refine sw_iload_n (dX8_letter.at 4 rfl) rfl rfl ?_
    refine sw_if_ge (tgt := 15) (dX8_letter.at 5 rfl) (by decide) (nrng hv.1) (fun q => ?_) (fun q => ?_)
    · replace hv := hv.2.1 q
      refine sw_iload_n (dX8_letter.at 8 rfl) rfl rfl ?_
      refine sw_aload_n (dX8_letter.at 9 rfl) rfl rfl ?_
      refine sw_getR (dX8_letter.at 10 rfl) fp_X8_65 (S_lt 0 (by decide)) (S_0 nw nx g) rfl rfl ?_
      refine sw_getR (dX8_letter.at 11 rfl) fp_X8_133 (S_e_lt hnw) (S_e hnw) rfl rfl ?_
      refine sw_iload_n (dX8_letter.at 12 rfl) rfl rfl ?_
      refine sw_ialdN x (w := ((gL P x : Nat) : Int)) (dX8_letter.at 13 rfl) (S_ek_lt hnw (by decide)) (S_e_2 hnw) (by decide) (GV_lt hV hv.1) (EL_L hE hv.1) ?_
      replace hv := hv.2
      refine sw_icmpN_ge i (gL P x) (tgt := 40) (dX8_letter.at 14 rfl) (by decide) hv.1 hv.2.1 (fun q => ?_) (fun q => ?_)
      · replace hv := hv.2.2.1 q
        refine sw_iconst (dX8_letter.at 21 rfl) ?_
        exact sw_iret (dX8_letter.at 22 rfl) rfl (Nat.le_refl _) (Nat.le_refl _) hv
      · replace hv := hv.2.2.2 q
        refine sw_aload_n (dX8_letter.at 15 rfl) rfl rfl ?_
        refine sw_getR (dX8_letter.at 16 rfl) fp_X8_65 (S_lt 0 (by decide)) (S_0 nw nx g) rfl rfl ?_
        refine sw_iload_n (dX8_letter.at 17 rfl) rfl rfl ?_
        refine sw_iload_n (dX8_letter.at 18 rfl) rfl rfl ?_
        refine sw_callV (B' := B0) (As := [vi (((x : Nat) : Int)), vi (((i : Nat) : Int))]) (mc := 0) (ms := 0) (dX8_letter.at 19 rfl) lk_X8_137 (S_e_lt hnw) (S_e hnw) rfl rfl (Nat.le_of_ble_eq_true rfl) rfl (Nat.le_refl _) (Nat.le_refl _) ?_
        refine c_X1_letterOf (e := nw) (x := x) (i := i) (j := j + 0) hnw hE hV hv.1 hv.2.1 ?_
        replace hv := hv.2.2
        refine sw_goto (tgt := 41) (dX8_letter.at 20 rfl) (by decide) ?_
        exact sw_iret (dX8_letter.at 22 rfl) rfl (Nat.le_refl _) (Nat.le_refl _) hv
    · replace hv := hv.2.2 q
      refine sw_bipush (dX8_letter.at 6 rfl) (by decide) ?_
      exact sw_iret (dX8_letter.at 7 rfl) rfl (Nat.le_refl _) (Nat.le_refl _) hv

set_option maxHeartbeats 2000000 in
set_option maxRecDepth 20000 in
theorem g_X8_letter_0 {G : GG} {j nw nx gn : Nat} {g : Nat → Sh} {c : Nat → Nat → Int} {post : Option AV → AM → Prop} {x : Int} {i : Int} {P : GD} (hnw : nw = 21 ∨ nw = 35) (hE : EL c nw P) (hV : GV P)  (hv : (-2147483648 ≤ x ∧ x < 2147483648) ∧ ((((decide (0 ≤ x ∧ x < (gN P : Int))) = false) → post (some (vi ((-2)))) (S nw nx g, 78 + gn, c)) ∧ (((decide (0 ≤ x ∧ x < (gN P : Int))) = true) → (-2147483648 ≤ i ∧ i < 2147483648) ∧ (((0 ≤ i) → SW G (j + 1) mX8_letter 24 [some (vr (0)), some (vi (x)), some (vi (i))] [vi (x), vr (nw + 2), vi (i)] (S nw nx g, 78 + gn, c) B0 post) ∧ ((¬ (0 ≤ i)) → post (some (vi ((-2)))) (S nw nx g, 78 + gn, c)))))) :
    SW G (j + 1) mX8_letter 0 [some (vr (0)), some (vi (x)), some (vi (i))] [] (S nw nx g, 78 + gn, c) B0 post := by
  refine sw_aload_n (dX8_letter.at 0 rfl) rfl rfl ?_
  refine sw_iload_n (dX8_letter.at 1 rfl) rfl rfl ?_
  refine sw_callV (B' := B0) (As := [vi (x)]) (mc := 0) (ms := 0) (dX8_letter.at 2 rfl) lk_X8_130 (S_lt 0 (by decide)) (S_0 nw nx g) rfl rfl (Nat.le_of_ble_eq_true rfl) rfl (Nat.le_refl _) (Nat.le_refl _) ?_
  refine c_X8_isElementP (x := x) (j := j + 0) hnw hE hV hv.1 ?_
  replace hv := hv.2
  refine sw_if_eq (tgt := 12) (dX8_letter.at 3 rfl) (by decide) (bz_rng _) (fun q => ?_) (fun q => ?_)
  · replace hv := hv.1 (bz_0 q)
    refine sw_bipush (dX8_letter.at 6 rfl) (by decide) ?_
    exact sw_iret (dX8_letter.at 7 rfl) rfl (Nat.le_refl _) (Nat.le_refl _) hv
  · replace hv := hv.2 (bz_n0 q)
    refine sw_iload_n (dX8_letter.at 4 rfl) rfl rfl ?_
    refine sw_if_ge (tgt := 15) (dX8_letter.at 5 rfl) (by decide) hv.1 (fun q => ?_) (fun q => ?_)
    · replace hv := hv.2.1 q
      refine sw_iload_n (dX8_letter.at 8 rfl) rfl rfl ?_
      refine sw_aload_n (dX8_letter.at 9 rfl) rfl rfl ?_
      refine sw_getR (dX8_letter.at 10 rfl) fp_X8_65 (S_lt 0 (by decide)) (S_0 nw nx g) rfl rfl ?_
      refine sw_getR (dX8_letter.at 11 rfl) fp_X8_133 (S_e_lt hnw) (S_e hnw) rfl rfl ?_
      refine sw_iload_n (dX8_letter.at 12 rfl) rfl rfl ?_
      exact hv
    · replace hv := hv.2.2 q
      refine sw_bipush (dX8_letter.at 6 rfl) (by decide) ?_
      exact sw_iret (dX8_letter.at 7 rfl) rfl (Nat.le_refl _) (Nat.le_refl _) hv

set_option maxHeartbeats 4000000 in
theorem c_X8_letter {G : GG} {j nw nx gn : Nat} {g : Nat → Sh} {c : Nat → Nat → Int} {post : Option AV → AM → Prop} {P : GD} {x i : Int} (hnw : nw = 21 ∨ nw = 35) (hE : EL c nw P) (hV : GV P) (p1 : -2147483648 ≤ x ∧ x < 2147483648) (p2 : -2147483648 ≤ i ∧ i < 2147483648) (K : post (some (vi (q_letter P x i))) (S nw nx g, 78 + gn, c)) : SM G (j + 2) mX8_letter [vr (0), vi (x), vi (i)] (S nw nx g, 78 + gn, c) 0 0 post := by
  refine sm_of wX8_letter rfl (Nat.le_of_ble_eq_true rfl) ?_
  have hN60 := GV_N hV
  have hR5 := GV_R hV
  by_cases hv : 0 ≤ x ∧ x < (gN P : Int) ∧ 0 ≤ i
  · obtain ⟨x, rfl⟩ : ∃ n : Nat, x = (n : Int) := ⟨x.toNat, by omega⟩
    obtain ⟨i, rfl⟩ : ∃ n : Nat, i = (n : Int) := ⟨i.toNat, by omega⟩
    have e : q_letter P ((x : Nat) : Int) ((i : Nat) : Int) = if i < gL P x then ((gLet P x i : Nat) : Int) else (-1) := by
      rw [q_letter, if_pos hv]
      simp only [Int.toNat_natCast]
    rw [e] at K
    have K1 : ∀ z : Int, z = (if i < gL P x then ((gLet P x i : Nat) : Int) else (-1)) → post (some (vi z)) (S nw nx g, 78 + gn, c) := fun z h => h ▸ K
    have hx : x < gN P := by omega
    have fx := hV.2.2.1 x hx
    refine g_X8_letter_0n hnw hE hV ?_
    refine ⟨?_, ⟨fun q => ?_, fun q => ⟨?_, ⟨fun q => ⟨?_, ⟨?_, ?_, ⟨fun q => ?_, fun q => ⟨?_, ?_, ?_⟩⟩⟩⟩, fun q => ?_⟩⟩⟩⟩
    all_goals first | exact K | omega | assumption | (exfalso; simp only [decide_eq_true_eq, decide_eq_false_iff_not] at *; omega) | (refine K1 _ ?_; first | (split <;> first | rfl | omega) | (simp [bz, *]; done))
  · have e : q_letter P x i = (-2) := by rw [q_letter, if_neg hv]
    rw [e] at K
    refine g_X8_letter_0 hnw hE hV ?_
    refine ⟨?_, ⟨fun q => ?_, fun q => ⟨?_, ⟨fun q => ?_, fun q => ?_⟩⟩⟩⟩
    all_goals first | exact K | omega | assumption | (exfalso; simp only [decide_eq_true_eq, decide_eq_false_iff_not] at *; omega)

def q_times (P : GD) (x y : Int) : Int := if (0 ≤ x ∧ x < (gN P : Int)) ∧ 0 ≤ y ∧ y < (gN P : Int) then ((gX P x.toNat y.toNat : Nat) : Int) else (-2)
set_option maxHeartbeats 2000000 in
set_option maxRecDepth 20000 in
theorem g_X8_times_0n {G : GG} {j nw nx gn : Nat} {g : Nat → Sh} {c : Nat → Nat → Int} {post : Option AV → AM → Prop} {x : Nat} {y : Nat} {P : GD} (hnw : nw = 21 ∨ nw = 35) (hE : EL c nw P) (hV : GV P)  (hv : (-2147483648 ≤ ((x : Nat) : Int) ∧ ((x : Nat) : Int) < 2147483648) ∧ (-2147483648 ≤ ((y : Nat) : Int) ∧ ((y : Nat) : Int) < 2147483648) ∧ ((((decide ((0 ≤ ((x : Nat) : Int) ∧ ((x : Nat) : Int) < (gN P : Int)) ∧ 0 ≤ ((y : Nat) : Int) ∧ ((y : Nat) : Int) < (gN P : Int))) = false) → post (some (vi ((-2)))) (S nw nx g, 78 + gn, c)) ∧ (((decide ((0 ≤ ((x : Nat) : Int) ∧ ((x : Nat) : Int) < (gN P : Int)) ∧ 0 ≤ ((y : Nat) : Int) ∧ ((y : Nat) : Int) < (gN P : Int))) = true) → (x < gN P) ∧ (y < gN P) ∧ (post (some (vi (((gX P x y : Nat) : Int)))) (S nw nx g, 78 + gn, c))))) :
    SW G (j + 2) mX8_times 0 [some (vr (0)), some (vi (((x : Nat) : Int))), some (vi (((y : Nat) : Int)))] [] (S nw nx g, 78 + gn, c) B0 post := by
  refine sw_aload_n (dX8_times.at 0 rfl) rfl rfl ?_
  refine sw_iload_n (dX8_times.at 1 rfl) rfl rfl ?_
  refine sw_iload_n (dX8_times.at 2 rfl) rfl rfl ?_
  refine sw_callV (B' := B0) (As := [vi (((x : Nat) : Int)), vi (((y : Nat) : Int))]) (mc := 0) (ms := 0) (dX8_times.at 3 rfl) lk_X8_157 (S_lt 0 (by decide)) (S_0 nw nx g) rfl rfl (Nat.le_of_ble_eq_true rfl) rfl (Nat.le_refl _) (Nat.le_refl _) ?_
  refine c_X8_arePair (x := ((x : Nat) : Int)) (y := ((y : Nat) : Int)) (j := j + 0) hnw hE hV hv.1 hv.2.1 ?_
  replace hv := hv.2.2
  refine sw_if_eq (tgt := 21) (dX8_times.at 4 rfl) (by decide) (bz_rng _) (fun q => ?_) (fun q => ?_)
  · replace hv := hv.1 (bz_0 q)
    refine sw_bipush (dX8_times.at 11 rfl) (by decide) ?_
    exact sw_iret (dX8_times.at 12 rfl) rfl (Nat.le_refl _) (Nat.le_refl _) hv
  · replace hv := hv.2 (bz_n0 q)
    refine sw_aload_n (dX8_times.at 5 rfl) rfl rfl ?_
    refine sw_getR (dX8_times.at 6 rfl) fp_X8_65 (S_lt 0 (by decide)) (S_0 nw nx g) rfl rfl ?_
    refine sw_iload_n (dX8_times.at 7 rfl) rfl rfl ?_
    refine sw_iload_n (dX8_times.at 8 rfl) rfl rfl ?_
    refine sw_callV (B' := B0) (As := [vi (((x : Nat) : Int)), vi (((y : Nat) : Int))]) (mc := 0) (ms := 0) (dX8_times.at 9 rfl) lk_X8_161 (S_e_lt hnw) (S_e hnw) rfl rfl (Nat.le_of_ble_eq_true rfl) rfl (Nat.le_refl _) (Nat.le_refl _) ?_
    refine c_X1_mulP (e := nw) (x := x) (y := y) (j := j + 1) hnw hE hV hv.1 hv.2.1 ?_
    replace hv := hv.2.2
    refine sw_goto (tgt := 23) (dX8_times.at 10 rfl) (by decide) ?_
    exact sw_iret (dX8_times.at 12 rfl) rfl (Nat.le_refl _) (Nat.le_refl _) hv

set_option maxHeartbeats 2000000 in
set_option maxRecDepth 20000 in
theorem g_X8_times_0 {G : GG} {j nw nx gn : Nat} {g : Nat → Sh} {c : Nat → Nat → Int} {post : Option AV → AM → Prop} {x : Int} {y : Int} {P : GD} (hnw : nw = 21 ∨ nw = 35) (hE : EL c nw P) (hV : GV P)  (hv : (-2147483648 ≤ x ∧ x < 2147483648) ∧ (-2147483648 ≤ y ∧ y < 2147483648) ∧ ((((decide ((0 ≤ x ∧ x < (gN P : Int)) ∧ 0 ≤ y ∧ y < (gN P : Int))) = false) → post (some (vi ((-2)))) (S nw nx g, 78 + gn, c)) ∧ (((decide ((0 ≤ x ∧ x < (gN P : Int)) ∧ 0 ≤ y ∧ y < (gN P : Int))) = true) → SW G (j + 2) mX8_times 15 [some (vr (0)), some (vi (x)), some (vi (y))] [vi (y), vi (x), vr (nw)] (S nw nx g, 78 + gn, c) B0 post))) :
    SW G (j + 2) mX8_times 0 [some (vr (0)), some (vi (x)), some (vi (y))] [] (S nw nx g, 78 + gn, c) B0 post := by
  refine sw_aload_n (dX8_times.at 0 rfl) rfl rfl ?_
  refine sw_iload_n (dX8_times.at 1 rfl) rfl rfl ?_
  refine sw_iload_n (dX8_times.at 2 rfl) rfl rfl ?_
  refine sw_callV (B' := B0) (As := [vi (x), vi (y)]) (mc := 0) (ms := 0) (dX8_times.at 3 rfl) lk_X8_157 (S_lt 0 (by decide)) (S_0 nw nx g) rfl rfl (Nat.le_of_ble_eq_true rfl) rfl (Nat.le_refl _) (Nat.le_refl _) ?_
  refine c_X8_arePair (x := x) (y := y) (j := j + 0) hnw hE hV hv.1 hv.2.1 ?_
  replace hv := hv.2.2
  refine sw_if_eq (tgt := 21) (dX8_times.at 4 rfl) (by decide) (bz_rng _) (fun q => ?_) (fun q => ?_)
  · replace hv := hv.1 (bz_0 q)
    refine sw_bipush (dX8_times.at 11 rfl) (by decide) ?_
    exact sw_iret (dX8_times.at 12 rfl) rfl (Nat.le_refl _) (Nat.le_refl _) hv
  · replace hv := hv.2 (bz_n0 q)
    refine sw_aload_n (dX8_times.at 5 rfl) rfl rfl ?_
    refine sw_getR (dX8_times.at 6 rfl) fp_X8_65 (S_lt 0 (by decide)) (S_0 nw nx g) rfl rfl ?_
    refine sw_iload_n (dX8_times.at 7 rfl) rfl rfl ?_
    refine sw_iload_n (dX8_times.at 8 rfl) rfl rfl ?_
    exact hv

set_option maxHeartbeats 4000000 in
theorem c_X8_times {G : GG} {j nw nx gn : Nat} {g : Nat → Sh} {c : Nat → Nat → Int} {post : Option AV → AM → Prop} {P : GD} {x y : Int} (hnw : nw = 21 ∨ nw = 35) (hE : EL c nw P) (hV : GV P) (p1 : -2147483648 ≤ x ∧ x < 2147483648) (p2 : -2147483648 ≤ y ∧ y < 2147483648) (K : post (some (vi (q_times P x y))) (S nw nx g, 78 + gn, c)) : SM G (j + 3) mX8_times [vr (0), vi (x), vi (y)] (S nw nx g, 78 + gn, c) 0 0 post := by
  refine sm_of wX8_times rfl (Nat.le_of_ble_eq_true rfl) ?_
  have hN60 := GV_N hV
  have hR5 := GV_R hV
  by_cases hv : (0 ≤ x ∧ x < (gN P : Int)) ∧ 0 ≤ y ∧ y < (gN P : Int)
  · obtain ⟨x, rfl⟩ : ∃ n : Nat, x = (n : Int) := ⟨x.toNat, by omega⟩
    obtain ⟨y, rfl⟩ : ∃ n : Nat, y = (n : Int) := ⟨y.toNat, by omega⟩
    have e : q_times P ((x : Nat) : Int) ((y : Nat) : Int) = ((gX P x y : Nat) : Int) := by
      rw [q_times, if_pos hv]
      simp only [Int.toNat_natCast]
    rw [e] at K
    have K1 : ∀ z : Int, z = (((gX P x y : Nat) : Int)) → post (some (vi z)) (S nw nx g, 78 + gn, c) := fun z h => h ▸ K
    have hx : x < gN P := by omega
    have fx := hV.2.2.1 x hx
    have hy : y < gN P := by omega
    have fy := hV.2.2.1 y hy
    refine g_X8_times_0n hnw hE hV ?_
    refine ⟨?_, ?_, ⟨fun q => ?_, fun q => ⟨?_, ?_, ?_⟩⟩⟩
    all_goals first | exact K | omega | assumption | (exfalso; simp only [decide_eq_true_eq, decide_eq_false_iff_not] at *; omega) | (refine K1 _ ?_; first | (split <;> first | rfl | omega) | (simp [bz, *]; done))
  · have e : q_times P x y = (-2) := by rw [q_times, if_neg hv]
    rw [e] at K
    refine g_X8_times_0 hnw hE hV ?_
    refine ⟨?_, ?_, ⟨fun q => ?_, fun q => ?_⟩⟩
    all_goals first | exact K | omega | assumption | (exfalso; simp only [decide_eq_true_eq, decide_eq_false_iff_not] at *; omega)

def q_below (P : GD) (x y : Int) : Int := if (0 ≤ x ∧ x < (gN P : Int)) ∧ 0 ≤ y ∧ y < (gN P : Int) then bz ((gD P y.toNat).testBit x.toNat) else (-2)
set_option maxHeartbeats 2000000 in
set_option maxRecDepth 20000 in
theorem g_X8_below_0n {G : GG} {j nw nx gn : Nat} {g : Nat → Sh} {c : Nat → Nat → Int} {post : Option AV → AM → Prop} {x : Nat} {y : Nat} {P : GD} (hnw : nw = 21 ∨ nw = 35) (hE : EL c nw P) (hV : GV P)  (hv : (-2147483648 ≤ ((x : Nat) : Int) ∧ ((x : Nat) : Int) < 2147483648) ∧ (-2147483648 ≤ ((y : Nat) : Int) ∧ ((y : Nat) : Int) < 2147483648) ∧ ((((decide ((0 ≤ ((x : Nat) : Int) ∧ ((x : Nat) : Int) < (gN P : Int)) ∧ 0 ≤ ((y : Nat) : Int) ∧ ((y : Nat) : Int) < (gN P : Int))) = true) → (x < gN P) ∧ (y < gN P) ∧ (((((gD P y).testBit x) = false) → post (some (vi (0))) (S nw nx g, 78 + gn, c)) ∧ ((((gD P y).testBit x) = true) → post (some (vi (1))) (S nw nx g, 78 + gn, c)))) ∧ (((decide ((0 ≤ ((x : Nat) : Int) ∧ ((x : Nat) : Int) < (gN P : Int)) ∧ 0 ≤ ((y : Nat) : Int) ∧ ((y : Nat) : Int) < (gN P : Int))) = false) → post (some (vi ((-2)))) (S nw nx g, 78 + gn, c)))) :
    SW G (j + 2) mX8_below 0 [some (vr (0)), some (vi (((x : Nat) : Int))), some (vi (((y : Nat) : Int)))] [] (S nw nx g, 78 + gn, c) B0 post := by
  refine sw_aload_n (dX8_below.at 0 rfl) rfl rfl ?_
  refine sw_iload_n (dX8_below.at 1 rfl) rfl rfl ?_
  refine sw_iload_n (dX8_below.at 2 rfl) rfl rfl ?_
  refine sw_callV (B' := B0) (As := [vi (((x : Nat) : Int)), vi (((y : Nat) : Int))]) (mc := 0) (ms := 0) (dX8_below.at 3 rfl) lk_X8_157 (S_lt 0 (by decide)) (S_0 nw nx g) rfl rfl (Nat.le_of_ble_eq_true rfl) rfl (Nat.le_refl _) (Nat.le_refl _) ?_
  refine c_X8_arePair (x := ((x : Nat) : Int)) (y := ((y : Nat) : Int)) (j := j + 0) hnw hE hV hv.1 hv.2.1 ?_
  replace hv := hv.2.2
  refine sw_if_ne (tgt := 12) (dX8_below.at 4 rfl) (by decide) (bz_rng _) (fun q => ?_) (fun q => ?_)
  · replace hv := hv.1 (bz_1 q)
    refine sw_aload_n (dX8_below.at 7 rfl) rfl rfl ?_
    refine sw_getR (dX8_below.at 8 rfl) fp_X8_65 (S_lt 0 (by decide)) (S_0 nw nx g) rfl rfl ?_
    refine sw_iload_n (dX8_below.at 9 rfl) rfl rfl ?_
    refine sw_iload_n (dX8_below.at 10 rfl) rfl rfl ?_
    refine sw_callV (B' := B0) (As := [vi (((x : Nat) : Int)), vi (((y : Nat) : Int))]) (mc := 0) (ms := 0) (dX8_below.at 11 rfl) lk_X8_176 (S_e_lt hnw) (S_e hnw) rfl rfl (Nat.le_of_ble_eq_true rfl) rfl (Nat.le_refl _) (Nat.le_refl _) ?_
    refine c_X1_isBelow (e := nw) (v := x) (w := y) (j := j + 0) hnw hE hV hv.1 hv.2.1 ?_
    replace hv := hv.2.2
    refine sw_if_eq (tgt := 28) (dX8_below.at 12 rfl) (by decide) (bz_rng _) (fun q => ?_) (fun q => ?_)
    · replace hv := hv.1 (bz_0 q)
      refine sw_iconst (dX8_below.at 15 rfl) ?_
      exact sw_iret (dX8_below.at 16 rfl) rfl (Nat.le_refl _) (Nat.le_refl _) hv
    · replace hv := hv.2 (bz_n0 q)
      refine sw_iconst (dX8_below.at 13 rfl) ?_
      refine sw_goto (tgt := 29) (dX8_below.at 14 rfl) (by decide) ?_
      exact sw_iret (dX8_below.at 16 rfl) rfl (Nat.le_refl _) (Nat.le_refl _) hv
  · replace hv := hv.2 (bz_n1 q)
    refine sw_bipush (dX8_below.at 5 rfl) (by decide) ?_
    exact sw_iret (dX8_below.at 6 rfl) rfl (Nat.le_refl _) (Nat.le_refl _) hv

set_option maxHeartbeats 2000000 in
set_option maxRecDepth 20000 in
theorem g_X8_below_0 {G : GG} {j nw nx gn : Nat} {g : Nat → Sh} {c : Nat → Nat → Int} {post : Option AV → AM → Prop} {x : Int} {y : Int} {P : GD} (hnw : nw = 21 ∨ nw = 35) (hE : EL c nw P) (hV : GV P)  (hv : (-2147483648 ≤ x ∧ x < 2147483648) ∧ (-2147483648 ≤ y ∧ y < 2147483648) ∧ ((((decide ((0 ≤ x ∧ x < (gN P : Int)) ∧ 0 ≤ y ∧ y < (gN P : Int))) = true) → SW G (j + 2) mX8_below 18 [some (vr (0)), some (vi (x)), some (vi (y))] [vi (y), vi (x), vr (nw)] (S nw nx g, 78 + gn, c) B0 post) ∧ (((decide ((0 ≤ x ∧ x < (gN P : Int)) ∧ 0 ≤ y ∧ y < (gN P : Int))) = false) → post (some (vi ((-2)))) (S nw nx g, 78 + gn, c)))) :
    SW G (j + 2) mX8_below 0 [some (vr (0)), some (vi (x)), some (vi (y))] [] (S nw nx g, 78 + gn, c) B0 post := by
  refine sw_aload_n (dX8_below.at 0 rfl) rfl rfl ?_
  refine sw_iload_n (dX8_below.at 1 rfl) rfl rfl ?_
  refine sw_iload_n (dX8_below.at 2 rfl) rfl rfl ?_
  refine sw_callV (B' := B0) (As := [vi (x), vi (y)]) (mc := 0) (ms := 0) (dX8_below.at 3 rfl) lk_X8_157 (S_lt 0 (by decide)) (S_0 nw nx g) rfl rfl (Nat.le_of_ble_eq_true rfl) rfl (Nat.le_refl _) (Nat.le_refl _) ?_
  refine c_X8_arePair (x := x) (y := y) (j := j + 0) hnw hE hV hv.1 hv.2.1 ?_
  replace hv := hv.2.2
  refine sw_if_ne (tgt := 12) (dX8_below.at 4 rfl) (by decide) (bz_rng _) (fun q => ?_) (fun q => ?_)
  · replace hv := hv.1 (bz_1 q)
    refine sw_aload_n (dX8_below.at 7 rfl) rfl rfl ?_
    refine sw_getR (dX8_below.at 8 rfl) fp_X8_65 (S_lt 0 (by decide)) (S_0 nw nx g) rfl rfl ?_
    refine sw_iload_n (dX8_below.at 9 rfl) rfl rfl ?_
    refine sw_iload_n (dX8_below.at 10 rfl) rfl rfl ?_
    exact hv
  · replace hv := hv.2 (bz_n1 q)
    refine sw_bipush (dX8_below.at 5 rfl) (by decide) ?_
    exact sw_iret (dX8_below.at 6 rfl) rfl (Nat.le_refl _) (Nat.le_refl _) hv

set_option maxHeartbeats 4000000 in
theorem c_X8_below {G : GG} {j nw nx gn : Nat} {g : Nat → Sh} {c : Nat → Nat → Int} {post : Option AV → AM → Prop} {P : GD} {x y : Int} (hnw : nw = 21 ∨ nw = 35) (hE : EL c nw P) (hV : GV P) (p1 : -2147483648 ≤ x ∧ x < 2147483648) (p2 : -2147483648 ≤ y ∧ y < 2147483648) (K : post (some (vi (q_below P x y))) (S nw nx g, 78 + gn, c)) : SM G (j + 3) mX8_below [vr (0), vi (x), vi (y)] (S nw nx g, 78 + gn, c) 0 0 post := by
  refine sm_of wX8_below rfl (Nat.le_of_ble_eq_true rfl) ?_
  have hN60 := GV_N hV
  have hR5 := GV_R hV
  by_cases hv : (0 ≤ x ∧ x < (gN P : Int)) ∧ 0 ≤ y ∧ y < (gN P : Int)
  · obtain ⟨x, rfl⟩ : ∃ n : Nat, x = (n : Int) := ⟨x.toNat, by omega⟩
    obtain ⟨y, rfl⟩ : ∃ n : Nat, y = (n : Int) := ⟨y.toNat, by omega⟩
    have e : q_below P ((x : Nat) : Int) ((y : Nat) : Int) = bz ((gD P y).testBit x) := by
      rw [q_below, if_pos hv]
      simp only [Int.toNat_natCast]
    rw [e] at K
    have K1 : ∀ z : Int, z = (bz ((gD P y).testBit x)) → post (some (vi z)) (S nw nx g, 78 + gn, c) := fun z h => h ▸ K
    have hx : x < gN P := by omega
    have fx := hV.2.2.1 x hx
    have hy : y < gN P := by omega
    have fy := hV.2.2.1 y hy
    refine g_X8_below_0n hnw hE hV ?_
    refine ⟨?_, ?_, ⟨fun q => ⟨?_, ?_, ⟨fun q => ?_, fun q => ?_⟩⟩, fun q => ?_⟩⟩
    all_goals first | exact K | omega | assumption | (exfalso; simp only [decide_eq_true_eq, decide_eq_false_iff_not] at *; omega) | (refine K1 _ ?_; first | (split <;> first | rfl | omega) | (simp [bz, *]; done))
  · have e : q_below P x y = (-2) := by rw [q_below, if_neg hv]
    rw [e] at K
    refine g_X8_below_0 hnw hE hV ?_
    refine ⟨?_, ?_, ⟨fun q => ?_, fun q => ?_⟩⟩
    all_goals first | exact K | omega | assumption | (exfalso; simp only [decide_eq_true_eq, decide_eq_false_iff_not] at *; omega)

def q_descents (P : GD) (x sd : Int) : Int := if 0 ≤ x ∧ x < (gN P : Int) ∧ 0 ≤ sd ∧ sd < 2 then ((if sd.toNat = 0 then gF P x.toNat else gE P x.toNat : Nat) : Int) else (-2)
set_option maxHeartbeats 2000000 in
set_option maxRecDepth 20000 in
theorem g_X8_descents_0n {G : GG} {j nw nx gn : Nat} {g : Nat → Sh} {c : Nat → Nat → Int} {post : Option AV → AM → Prop} {x : Nat} {sd : Nat} {P : GD} (hnw : nw = 21 ∨ nw = 35) (hE : EL c nw P) (hV : GV P)  (hv : (-2147483648 ≤ ((x : Nat) : Int) ∧ ((x : Nat) : Int) < 2147483648) ∧ ((((decide (0 ≤ ((x : Nat) : Int) ∧ ((x : Nat) : Int) < (gN P : Int))) = false) → post (some (vi ((-2)))) (S nw nx g, 78 + gn, c)) ∧ (((decide (0 ≤ ((x : Nat) : Int) ∧ ((x : Nat) : Int) < (gN P : Int))) = true) → (-2147483648 ≤ ((sd : Nat) : Int) ∧ ((sd : Nat) : Int) < 2147483648) ∧ ((((decide (((sd : Nat) : Int) = 0 ∨ ((sd : Nat) : Int) = 1)) = true) → (x < gN P) ∧ (sd < 2) ∧ (post (some (vi (((if sd = 0 then gF P x else gE P x : Nat) : Int)))) (S nw nx g, 78 + gn, c))) ∧ (((decide (((sd : Nat) : Int) = 0 ∨ ((sd : Nat) : Int) = 1)) = false) → post (some (vi ((-2)))) (S nw nx g, 78 + gn, c)))))) :
    SW G (j + 1) mX8_descents 0 [some (vr (0)), some (vi (((x : Nat) : Int))), some (vi (((sd : Nat) : Int)))] [] (S nw nx g, 78 + gn, c) B0 post := by
  refine sw_aload_n (dX8_descents.at 0 rfl) rfl rfl ?_
  refine sw_iload_n (dX8_descents.at 1 rfl) rfl rfl ?_
  refine sw_callV (B' := B0) (As := [vi (((x : Nat) : Int))]) (mc := 0) (ms := 0) (dX8_descents.at 2 rfl) lk_X8_130 (S_lt 0 (by decide)) (S_0 nw nx g) rfl rfl (Nat.le_of_ble_eq_true rfl) rfl (Nat.le_refl _) (Nat.le_refl _) ?_
  refine c_X8_isElementP (x := ((x : Nat) : Int)) (j := j + 0) hnw hE hV hv.1 ?_
  replace hv := hv.2
  refine sw_if_eq (tgt := 15) (dX8_descents.at 3 rfl) (by decide) (bz_rng _) (fun q => ?_) (fun q => ?_)
  · replace hv := hv.1 (bz_0 q)
    refine sw_bipush (dX8_descents.at 7 rfl) (by decide) ?_
    exact sw_iret (dX8_descents.at 8 rfl) rfl (Nat.le_refl _) (Nat.le_refl _) hv
  · replace hv := hv.2 (bz_n0 q)
    refine sw_iload_n (dX8_descents.at 4 rfl) rfl rfl ?_
    refine sw_callS (post' := post) (B' := B0) (As := [vi (((sd : Nat) : Int))]) (mc := 0) (ms := 0) (dX8_descents.at 5 rfl) lk_X8_167 rfl rfl (Nat.le_of_ble_eq_true rfl) rfl (Nat.le_refl _) (Nat.le_refl _) ?_
    refine c_X8_isSide (x := ((sd : Nat) : Int)) (j := j + 0) hv.1 ?_
    replace hv := hv.2
    refine sw_if_ne (tgt := 18) (dX8_descents.at 6 rfl) (by decide) (bz_rng _) (fun q => ?_) (fun q => ?_)
    · replace hv := hv.1 (bz_1 q)
      refine sw_aload_n (dX8_descents.at 9 rfl) rfl rfl ?_
      refine sw_getR (dX8_descents.at 10 rfl) fp_X8_65 (S_lt 0 (by decide)) (S_0 nw nx g) rfl rfl ?_
      refine sw_iload_n (dX8_descents.at 11 rfl) rfl rfl ?_
      refine sw_iload_n (dX8_descents.at 12 rfl) rfl rfl ?_
      refine sw_callV (B' := B0) (As := [vi (((x : Nat) : Int)), vi (((sd : Nat) : Int))]) (mc := 0) (ms := 0) (dX8_descents.at 13 rfl) lk_X8_170 (S_e_lt hnw) (S_e hnw) rfl rfl (Nat.le_of_ble_eq_true rfl) rfl (Nat.le_refl _) (Nat.le_refl _) ?_
      refine c_X1_descentsOn (e := nw) (x := x) (sd := sd) (j := j + 0) hnw hE hV hv.1 hv.2.1 ?_
      replace hv := hv.2.2
      exact sw_iret (dX8_descents.at 14 rfl) rfl (Nat.le_refl _) (Nat.le_refl _) hv
    · replace hv := hv.2 (bz_n1 q)
      refine sw_bipush (dX8_descents.at 7 rfl) (by decide) ?_
      exact sw_iret (dX8_descents.at 8 rfl) rfl (Nat.le_refl _) (Nat.le_refl _) hv

set_option maxHeartbeats 2000000 in
set_option maxRecDepth 20000 in
theorem g_X8_descents_0 {G : GG} {j nw nx gn : Nat} {g : Nat → Sh} {c : Nat → Nat → Int} {post : Option AV → AM → Prop} {x : Int} {sd : Int} {P : GD} (hnw : nw = 21 ∨ nw = 35) (hE : EL c nw P) (hV : GV P)  (hv : (-2147483648 ≤ x ∧ x < 2147483648) ∧ ((((decide (0 ≤ x ∧ x < (gN P : Int))) = false) → post (some (vi ((-2)))) (S nw nx g, 78 + gn, c)) ∧ (((decide (0 ≤ x ∧ x < (gN P : Int))) = true) → (-2147483648 ≤ sd ∧ sd < 2147483648) ∧ ((((decide (sd = 0 ∨ sd = 1)) = true) → SW G (j + 1) mX8_descents 24 [some (vr (0)), some (vi (x)), some (vi (sd))] [vi (sd), vi (x), vr (nw)] (S nw nx g, 78 + gn, c) B0 post) ∧ (((decide (sd = 0 ∨ sd = 1)) = false) → post (some (vi ((-2)))) (S nw nx g, 78 + gn, c)))))) :
    SW G (j + 1) mX8_descents 0 [some (vr (0)), some (vi (x)), some (vi (sd))] [] (S nw nx g, 78 + gn, c) B0 post := by
  refine sw_aload_n (dX8_descents.at 0 rfl) rfl rfl ?_
  refine sw_iload_n (dX8_descents.at 1 rfl) rfl rfl ?_
  refine sw_callV (B' := B0) (As := [vi (x)]) (mc := 0) (ms := 0) (dX8_descents.at 2 rfl) lk_X8_130 (S_lt 0 (by decide)) (S_0 nw nx g) rfl rfl (Nat.le_of_ble_eq_true rfl) rfl (Nat.le_refl _) (Nat.le_refl _) ?_
  refine c_X8_isElementP (x := x) (j := j + 0) hnw hE hV hv.1 ?_
  replace hv := hv.2
  refine sw_if_eq (tgt := 15) (dX8_descents.at 3 rfl) (by decide) (bz_rng _) (fun q => ?_) (fun q => ?_)
  · replace hv := hv.1 (bz_0 q)
    refine sw_bipush (dX8_descents.at 7 rfl) (by decide) ?_
    exact sw_iret (dX8_descents.at 8 rfl) rfl (Nat.le_refl _) (Nat.le_refl _) hv
  · replace hv := hv.2 (bz_n0 q)
    refine sw_iload_n (dX8_descents.at 4 rfl) rfl rfl ?_
    refine sw_callS (post' := post) (B' := B0) (As := [vi (sd)]) (mc := 0) (ms := 0) (dX8_descents.at 5 rfl) lk_X8_167 rfl rfl (Nat.le_of_ble_eq_true rfl) rfl (Nat.le_refl _) (Nat.le_refl _) ?_
    refine c_X8_isSide (x := sd) (j := j + 0) hv.1 ?_
    replace hv := hv.2
    refine sw_if_ne (tgt := 18) (dX8_descents.at 6 rfl) (by decide) (bz_rng _) (fun q => ?_) (fun q => ?_)
    · replace hv := hv.1 (bz_1 q)
      refine sw_aload_n (dX8_descents.at 9 rfl) rfl rfl ?_
      refine sw_getR (dX8_descents.at 10 rfl) fp_X8_65 (S_lt 0 (by decide)) (S_0 nw nx g) rfl rfl ?_
      refine sw_iload_n (dX8_descents.at 11 rfl) rfl rfl ?_
      refine sw_iload_n (dX8_descents.at 12 rfl) rfl rfl ?_
      exact hv
    · replace hv := hv.2 (bz_n1 q)
      refine sw_bipush (dX8_descents.at 7 rfl) (by decide) ?_
      exact sw_iret (dX8_descents.at 8 rfl) rfl (Nat.le_refl _) (Nat.le_refl _) hv

set_option maxHeartbeats 4000000 in
theorem c_X8_descents {G : GG} {j nw nx gn : Nat} {g : Nat → Sh} {c : Nat → Nat → Int} {post : Option AV → AM → Prop} {P : GD} {x sd : Int} (hnw : nw = 21 ∨ nw = 35) (hE : EL c nw P) (hV : GV P) (p1 : -2147483648 ≤ x ∧ x < 2147483648) (p2 : -2147483648 ≤ sd ∧ sd < 2147483648) (K : post (some (vi (q_descents P x sd))) (S nw nx g, 78 + gn, c)) : SM G (j + 2) mX8_descents [vr (0), vi (x), vi (sd)] (S nw nx g, 78 + gn, c) 0 0 post := by
  refine sm_of wX8_descents rfl (Nat.le_of_ble_eq_true rfl) ?_
  have hN60 := GV_N hV
  have hR5 := GV_R hV
  by_cases hv : 0 ≤ x ∧ x < (gN P : Int) ∧ 0 ≤ sd ∧ sd < 2
  · obtain ⟨x, rfl⟩ : ∃ n : Nat, x = (n : Int) := ⟨x.toNat, by omega⟩
    obtain ⟨sd, rfl⟩ : ∃ n : Nat, sd = (n : Int) := ⟨sd.toNat, by omega⟩
    have e : q_descents P ((x : Nat) : Int) ((sd : Nat) : Int) = ((if sd = 0 then gF P x else gE P x : Nat) : Int) := by
      rw [q_descents, if_pos hv]
      simp only [Int.toNat_natCast]
    rw [e] at K
    have K1 : ∀ z : Int, z = (((if sd = 0 then gF P x else gE P x : Nat) : Int)) → post (some (vi z)) (S nw nx g, 78 + gn, c) := fun z h => h ▸ K
    have hx : x < gN P := by omega
    have fx := hV.2.2.1 x hx
    refine g_X8_descents_0n hnw hE hV ?_
    refine ⟨?_, ⟨fun q => ?_, fun q => ⟨?_, ⟨fun q => ⟨?_, ?_, ?_⟩, fun q => ?_⟩⟩⟩⟩
    all_goals first | exact K | omega | assumption | (exfalso; simp only [decide_eq_true_eq, decide_eq_false_iff_not] at *; omega) | (refine K1 _ ?_; first | (split <;> first | rfl | omega) | (simp [bz, *]; done))
  · have e : q_descents P x sd = (-2) := by rw [q_descents, if_neg hv]
    rw [e] at K
    refine g_X8_descents_0 hnw hE hV ?_
    refine ⟨?_, ⟨fun q => ?_, fun q => ⟨?_, ⟨fun q => ?_, fun q => ?_⟩⟩⟩⟩
    all_goals first | exact K | omega | assumption | (exfalso; simp only [decide_eq_true_eq, decide_eq_false_iff_not] at *; omega)

def q_reflection (P : GD) (i : Int) : Int := if 0 < gN P ∧ 0 ≤ i then if i.toNat < gM P then ((gT P i.toNat : Nat) : Int) else (-1) else (-2)
set_option maxHeartbeats 2000000 in
set_option maxRecDepth 20000 in
theorem g_X8_reflection_0n {G : GG} {j nw nx gn : Nat} {g : Nat → Sh} {c : Nat → Nat → Int} {post : Option AV → AM → Prop} {i : Nat} {P : GD} (hnw : nw = 21 ∨ nw = 35) (hE : EL c nw P) (hV : GV P)  (hv : (gN P < 2147483648) ∧ (((gN P = 0) → post (some (vi ((-2)))) (S nw nx g, 78 + gn, c)) ∧ ((¬ (gN P = 0)) → (i < 2147483648) ∧ (((0 ≤ ((i : Nat) : Int)) → (i < 2147483648) ∧ (gM P < 2147483648) ∧ (((gM P ≤ i) → post (some (vi ((-1)))) (S nw nx g, 78 + gn, c)) ∧ ((¬ (gM P ≤ i)) → (i < gM P) ∧ (post (some (vi (((gT P i : Nat) : Int)))) (S nw nx g, 78 + gn, c))))) ∧ ((¬ (0 ≤ ((i : Nat) : Int))) → post (some (vi ((-2)))) (S nw nx g, 78 + gn, c)))))) :
    SW G (j + 0) mX8_reflection 0 [some (vr (0)), some (vi (((i : Nat) : Int)))] [] (S nw nx g, 78 + gn, c) B0 post := by
  refine sw_aload_n (dX8_reflection.at 0 rfl) rfl rfl ?_
  refine sw_getR (dX8_reflection.at 1 rfl) fp_X8_65 (S_lt 0 (by decide)) (S_0 nw nx g) rfl rfl ?_
  refine sw_getIE (w := ((gN P : Nat) : Int)) (dX8_reflection.at 2 rfl) fp_X8_103 (S_e_lt hnw) (S_e hnw) rfl (EL_N hE) ?_
  refine sw_ifN_eq (gN P) (tgt := 14) (dX8_reflection.at 3 rfl) (by decide) hv.1 (fun q => ?_) (fun q => ?_)
  · replace hv := hv.2.1 q
    refine sw_bipush (dX8_reflection.at 6 rfl) (by decide) ?_
    exact sw_iret (dX8_reflection.at 7 rfl) rfl (Nat.le_refl _) (Nat.le_refl _) hv
  · replace hv := hv.2.2 q
    refine sw_iload_n (dX8_reflection.at 4 rfl) rfl rfl ?_
    refine sw_if_ge (tgt := 17) (dX8_reflection.at 5 rfl) (by decide) (nrng hv.1) (fun q => ?_) (fun q => ?_)
    · replace hv := hv.2.1 q
      refine sw_iload_n (dX8_reflection.at 8 rfl) rfl rfl ?_
      refine sw_aload_n (dX8_reflection.at 9 rfl) rfl rfl ?_
      refine sw_getR (dX8_reflection.at 10 rfl) fp_X8_65 (S_lt 0 (by decide)) (S_0 nw nx g) rfl rfl ?_
      refine sw_getIE (w := ((gM P : Nat) : Int)) (dX8_reflection.at 11 rfl) fp_X8_116 (S_e_lt hnw) (S_e hnw) rfl (EL_M hE) ?_
      refine sw_icmpN_ge i (gM P) (tgt := 40) (dX8_reflection.at 12 rfl) (by decide) hv.1 hv.2.1 (fun q => ?_) (fun q => ?_)
      · replace hv := hv.2.2.1 q
        refine sw_iconst (dX8_reflection.at 19 rfl) ?_
        exact sw_iret (dX8_reflection.at 20 rfl) rfl (Nat.le_refl _) (Nat.le_refl _) hv
      · replace hv := hv.2.2.2 q
        refine sw_aload_n (dX8_reflection.at 13 rfl) rfl rfl ?_
        refine sw_getR (dX8_reflection.at 14 rfl) fp_X8_65 (S_lt 0 (by decide)) (S_0 nw nx g) rfl rfl ?_
        refine sw_getR (dX8_reflection.at 15 rfl) fp_X8_173 (S_e_lt hnw) (S_e hnw) rfl rfl ?_
        refine sw_iload_n (dX8_reflection.at 16 rfl) rfl rfl ?_
        refine sw_ialdN i (w := ((gT P i : Nat) : Int)) (dX8_reflection.at 17 rfl) (S_ek_lt hnw (by decide)) (S_e_10 hnw) (by decide) (GV_ltM hV hv.1) (EL_T hE hv.1) ?_
        replace hv := hv.2
        refine sw_goto (tgt := 41) (dX8_reflection.at 18 rfl) (by decide) ?_
        exact sw_iret (dX8_reflection.at 20 rfl) rfl (Nat.le_refl _) (Nat.le_refl _) hv
    · replace hv := hv.2.2 q
      refine sw_bipush (dX8_reflection.at 6 rfl) (by decide) ?_
      exact sw_iret (dX8_reflection.at 7 rfl) rfl (Nat.le_refl _) (Nat.le_refl _) hv

set_option maxHeartbeats 2000000 in
set_option maxRecDepth 20000 in
theorem g_X8_reflection_0 {G : GG} {j nw nx gn : Nat} {g : Nat → Sh} {c : Nat → Nat → Int} {post : Option AV → AM → Prop} {i : Int} {P : GD} (hnw : nw = 21 ∨ nw = 35) (hE : EL c nw P) (hV : GV P)  (hv : (gN P < 2147483648) ∧ (((gN P = 0) → post (some (vi ((-2)))) (S nw nx g, 78 + gn, c)) ∧ ((¬ (gN P = 0)) → (-2147483648 ≤ i ∧ i < 2147483648) ∧ (((0 ≤ i) → (-2147483648 ≤ i ∧ i < 2147483648) ∧ (gM P < 2147483648) ∧ (((((gM P : Nat) : Int) ≤ i) → post (some (vi ((-1)))) (S nw nx g, 78 + gn, c)) ∧ ((¬ (((gM P : Nat) : Int) ≤ i)) → SW G (j + 0) mX8_reflection 36 [some (vr (0)), some (vi (i))] [vi (i), vr (nw + 10)] (S nw nx g, 78 + gn, c) B0 post))) ∧ ((¬ (0 ≤ i)) → post (some (vi ((-2)))) (S nw nx g, 78 + gn, c)))))) :
    SW G (j + 0) mX8_reflection 0 [some (vr (0)), some (vi (i))] [] (S nw nx g, 78 + gn, c) B0 post := by
  refine sw_aload_n (dX8_reflection.at 0 rfl) rfl rfl ?_
  refine sw_getR (dX8_reflection.at 1 rfl) fp_X8_65 (S_lt 0 (by decide)) (S_0 nw nx g) rfl rfl ?_
  refine sw_getIE (w := ((gN P : Nat) : Int)) (dX8_reflection.at 2 rfl) fp_X8_103 (S_e_lt hnw) (S_e hnw) rfl (EL_N hE) ?_
  refine sw_ifN_eq (gN P) (tgt := 14) (dX8_reflection.at 3 rfl) (by decide) hv.1 (fun q => ?_) (fun q => ?_)
  · replace hv := hv.2.1 q
    refine sw_bipush (dX8_reflection.at 6 rfl) (by decide) ?_
    exact sw_iret (dX8_reflection.at 7 rfl) rfl (Nat.le_refl _) (Nat.le_refl _) hv
  · replace hv := hv.2.2 q
    refine sw_iload_n (dX8_reflection.at 4 rfl) rfl rfl ?_
    refine sw_if_ge (tgt := 17) (dX8_reflection.at 5 rfl) (by decide) hv.1 (fun q => ?_) (fun q => ?_)
    · replace hv := hv.2.1 q
      refine sw_iload_n (dX8_reflection.at 8 rfl) rfl rfl ?_
      refine sw_aload_n (dX8_reflection.at 9 rfl) rfl rfl ?_
      refine sw_getR (dX8_reflection.at 10 rfl) fp_X8_65 (S_lt 0 (by decide)) (S_0 nw nx g) rfl rfl ?_
      refine sw_getIE (w := ((gM P : Nat) : Int)) (dX8_reflection.at 11 rfl) fp_X8_116 (S_e_lt hnw) (S_e hnw) rfl (EL_M hE) ?_
      refine sw_icmp_ge (tgt := 40) (dX8_reflection.at 12 rfl) (by decide) hv.1 (nrng hv.2.1) (fun q => ?_) (fun q => ?_)
      · replace hv := hv.2.2.1 q
        refine sw_iconst (dX8_reflection.at 19 rfl) ?_
        exact sw_iret (dX8_reflection.at 20 rfl) rfl (Nat.le_refl _) (Nat.le_refl _) hv
      · replace hv := hv.2.2.2 q
        refine sw_aload_n (dX8_reflection.at 13 rfl) rfl rfl ?_
        refine sw_getR (dX8_reflection.at 14 rfl) fp_X8_65 (S_lt 0 (by decide)) (S_0 nw nx g) rfl rfl ?_
        refine sw_getR (dX8_reflection.at 15 rfl) fp_X8_173 (S_e_lt hnw) (S_e hnw) rfl rfl ?_
        refine sw_iload_n (dX8_reflection.at 16 rfl) rfl rfl ?_
        exact hv
    · replace hv := hv.2.2 q
      refine sw_bipush (dX8_reflection.at 6 rfl) (by decide) ?_
      exact sw_iret (dX8_reflection.at 7 rfl) rfl (Nat.le_refl _) (Nat.le_refl _) hv

set_option maxHeartbeats 4000000 in
theorem c_X8_reflection {G : GG} {j nw nx gn : Nat} {g : Nat → Sh} {c : Nat → Nat → Int} {post : Option AV → AM → Prop} {P : GD} {i : Int} (hnw : nw = 21 ∨ nw = 35) (hE : EL c nw P) (hV : GV P) (p1 : -2147483648 ≤ i ∧ i < 2147483648) (K : post (some (vi (q_reflection P i))) (S nw nx g, 78 + gn, c)) : SM G (j + 1) mX8_reflection [vr (0), vi (i)] (S nw nx g, 78 + gn, c) 0 0 post := by
  refine sm_of wX8_reflection rfl (Nat.le_of_ble_eq_true rfl) ?_
  have hN60 := GV_N hV
  have hR5 := GV_R hV
  by_cases hv : 0 < gN P ∧ 0 ≤ i
  · obtain ⟨i, rfl⟩ : ∃ n : Nat, i = (n : Int) := ⟨i.toNat, by omega⟩
    have e : q_reflection P ((i : Nat) : Int) = if i < gM P then ((gT P i : Nat) : Int) else (-1) := by
      rw [q_reflection, if_pos hv]
      simp only [Int.toNat_natCast]
    rw [e] at K
    have K1 : ∀ z : Int, z = (if i < gM P then ((gT P i : Nat) : Int) else (-1)) → post (some (vi z)) (S nw nx g, 78 + gn, c) := fun z h => h ▸ K
    have hm := hV.1.2.2.1
    refine g_X8_reflection_0n hnw hE hV ?_
    refine ⟨?_, ⟨fun q => ?_, fun q => ⟨?_, ⟨fun q => ⟨?_, ?_, ⟨fun q => ?_, fun q => ⟨?_, ?_⟩⟩⟩, fun q => ?_⟩⟩⟩⟩
    all_goals first | exact K | omega | assumption | (exfalso; simp only [decide_eq_true_eq, decide_eq_false_iff_not] at *; omega) | (refine K1 _ ?_; first | (split <;> first | rfl | omega) | (simp [bz, *]; done))
  · have e : q_reflection P i = (-2) := by rw [q_reflection, if_neg hv]
    rw [e] at K
    refine g_X8_reflection_0 hnw hE hV ?_
    refine ⟨?_, ⟨fun q => ?_, fun q => ⟨?_, ⟨fun q => ⟨?_, ?_, ⟨fun q => ?_, fun q => ?_⟩⟩, fun q => ?_⟩⟩⟩⟩
    all_goals first | exact K | omega | assumption | (exfalso; simp only [decide_eq_true_eq, decide_eq_false_iff_not] at *; omega)

def q_bond (P : GD) (x y : Int) : Int := if (0 ≤ x ∧ x < (gR P : Int)) ∧ 0 ≤ y ∧ y < (gR P : Int) then ((gBd P x.toNat y.toNat : Nat) : Int) else (-2)
set_option maxHeartbeats 2000000 in
set_option maxRecDepth 20000 in
theorem g_X8_bond_0n {G : GG} {j nw nx gn : Nat} {g : Nat → Sh} {c : Nat → Nat → Int} {post : Option AV → AM → Prop} {x : Nat} {y : Nat} {P : GD} (hnw : nw = 21 ∨ nw = 35) (hE : EL c nw P) (hV : GV P)  (hv : (-2147483648 ≤ ((x : Nat) : Int) ∧ ((x : Nat) : Int) < 2147483648) ∧ ((((decide (0 ≤ ((x : Nat) : Int) ∧ ((x : Nat) : Int) < (gR P : Int))) = false) → post (some (vi ((-2)))) (S nw nx g, 78 + gn, c)) ∧ (((decide (0 ≤ ((x : Nat) : Int) ∧ ((x : Nat) : Int) < (gR P : Int))) = true) → (-2147483648 ≤ ((y : Nat) : Int) ∧ ((y : Nat) : Int) < 2147483648) ∧ ((((decide (0 ≤ ((y : Nat) : Int) ∧ ((y : Nat) : Int) < (gR P : Int))) = true) → (x < gR P) ∧ (y < gR P) ∧ (post (some (vi (((gBd P x y : Nat) : Int)))) (S nw nx g, 78 + gn, c))) ∧ (((decide (0 ≤ ((y : Nat) : Int) ∧ ((y : Nat) : Int) < (gR P : Int))) = false) → post (some (vi ((-2)))) (S nw nx g, 78 + gn, c)))))) :
    SW G (j + 1) mX8_bond 0 [some (vr (0)), some (vi (((x : Nat) : Int))), some (vi (((y : Nat) : Int)))] [] (S nw nx g, 78 + gn, c) B0 post := by
  refine sw_aload_n (dX8_bond.at 0 rfl) rfl rfl ?_
  refine sw_iload_n (dX8_bond.at 1 rfl) rfl rfl ?_
  refine sw_callV (B' := B0) (As := [vi (((x : Nat) : Int))]) (mc := 0) (ms := 0) (dX8_bond.at 2 rfl) lk_X8_122 (S_lt 0 (by decide)) (S_0 nw nx g) rfl rfl (Nat.le_of_ble_eq_true rfl) rfl (Nat.le_refl _) (Nat.le_refl _) ?_
  refine c_X8_isLetter (x := ((x : Nat) : Int)) (j := j + 0) hnw hE hV hv.1 ?_
  replace hv := hv.2
  refine sw_if_eq (tgt := 16) (dX8_bond.at 3 rfl) (by decide) (bz_rng _) (fun q => ?_) (fun q => ?_)
  · replace hv := hv.1 (bz_0 q)
    refine sw_bipush (dX8_bond.at 8 rfl) (by decide) ?_
    exact sw_iret (dX8_bond.at 9 rfl) rfl (Nat.le_refl _) (Nat.le_refl _) hv
  · replace hv := hv.2 (bz_n0 q)
    refine sw_aload_n (dX8_bond.at 4 rfl) rfl rfl ?_
    refine sw_iload_n (dX8_bond.at 5 rfl) rfl rfl ?_
    refine sw_callV (B' := B0) (As := [vi (((y : Nat) : Int))]) (mc := 0) (ms := 0) (dX8_bond.at 6 rfl) lk_X8_122 (S_lt 0 (by decide)) (S_0 nw nx g) rfl rfl (Nat.le_of_ble_eq_true rfl) rfl (Nat.le_refl _) (Nat.le_refl _) ?_
    refine c_X8_isLetter (x := ((y : Nat) : Int)) (j := j + 0) hnw hE hV hv.1 ?_
    replace hv := hv.2
    refine sw_if_ne (tgt := 19) (dX8_bond.at 7 rfl) (by decide) (bz_rng _) (fun q => ?_) (fun q => ?_)
    · replace hv := hv.1 (bz_1 q)
      refine sw_aload_n (dX8_bond.at 10 rfl) rfl rfl ?_
      refine sw_getR (dX8_bond.at 11 rfl) fp_X8_65 (S_lt 0 (by decide)) (S_0 nw nx g) rfl rfl ?_
      refine sw_iload_n (dX8_bond.at 12 rfl) rfl rfl ?_
      refine sw_iload_n (dX8_bond.at 13 rfl) rfl rfl ?_
      refine sw_callV (B' := B0) (As := [vi (((x : Nat) : Int)), vi (((y : Nat) : Int))]) (mc := 0) (ms := 0) (dX8_bond.at 14 rfl) lk_X8_126 (S_e_lt hnw) (S_e hnw) rfl rfl (Nat.le_of_ble_eq_true rfl) rfl (Nat.le_refl _) (Nat.le_refl _) ?_
      refine c_X1_turns (e := nw) (s := x) (t := y) (j := j + 0) hnw hE hV hv.1 hv.2.1 ?_
      replace hv := hv.2.2
      exact sw_iret (dX8_bond.at 15 rfl) rfl (Nat.le_refl _) (Nat.le_refl _) hv
    · replace hv := hv.2 (bz_n1 q)
      refine sw_bipush (dX8_bond.at 8 rfl) (by decide) ?_
      exact sw_iret (dX8_bond.at 9 rfl) rfl (Nat.le_refl _) (Nat.le_refl _) hv

set_option maxHeartbeats 2000000 in
set_option maxRecDepth 20000 in
theorem g_X8_bond_0 {G : GG} {j nw nx gn : Nat} {g : Nat → Sh} {c : Nat → Nat → Int} {post : Option AV → AM → Prop} {x : Int} {y : Int} {P : GD} (hnw : nw = 21 ∨ nw = 35) (hE : EL c nw P) (hV : GV P)  (hv : (-2147483648 ≤ x ∧ x < 2147483648) ∧ ((((decide (0 ≤ x ∧ x < (gR P : Int))) = false) → post (some (vi ((-2)))) (S nw nx g, 78 + gn, c)) ∧ (((decide (0 ≤ x ∧ x < (gR P : Int))) = true) → (-2147483648 ≤ y ∧ y < 2147483648) ∧ ((((decide (0 ≤ y ∧ y < (gR P : Int))) = true) → SW G (j + 1) mX8_bond 25 [some (vr (0)), some (vi (x)), some (vi (y))] [vi (y), vi (x), vr (nw)] (S nw nx g, 78 + gn, c) B0 post) ∧ (((decide (0 ≤ y ∧ y < (gR P : Int))) = false) → post (some (vi ((-2)))) (S nw nx g, 78 + gn, c)))))) :
    SW G (j + 1) mX8_bond 0 [some (vr (0)), some (vi (x)), some (vi (y))] [] (S nw nx g, 78 + gn, c) B0 post := by
  refine sw_aload_n (dX8_bond.at 0 rfl) rfl rfl ?_
  refine sw_iload_n (dX8_bond.at 1 rfl) rfl rfl ?_
  refine sw_callV (B' := B0) (As := [vi (x)]) (mc := 0) (ms := 0) (dX8_bond.at 2 rfl) lk_X8_122 (S_lt 0 (by decide)) (S_0 nw nx g) rfl rfl (Nat.le_of_ble_eq_true rfl) rfl (Nat.le_refl _) (Nat.le_refl _) ?_
  refine c_X8_isLetter (x := x) (j := j + 0) hnw hE hV hv.1 ?_
  replace hv := hv.2
  refine sw_if_eq (tgt := 16) (dX8_bond.at 3 rfl) (by decide) (bz_rng _) (fun q => ?_) (fun q => ?_)
  · replace hv := hv.1 (bz_0 q)
    refine sw_bipush (dX8_bond.at 8 rfl) (by decide) ?_
    exact sw_iret (dX8_bond.at 9 rfl) rfl (Nat.le_refl _) (Nat.le_refl _) hv
  · replace hv := hv.2 (bz_n0 q)
    refine sw_aload_n (dX8_bond.at 4 rfl) rfl rfl ?_
    refine sw_iload_n (dX8_bond.at 5 rfl) rfl rfl ?_
    refine sw_callV (B' := B0) (As := [vi (y)]) (mc := 0) (ms := 0) (dX8_bond.at 6 rfl) lk_X8_122 (S_lt 0 (by decide)) (S_0 nw nx g) rfl rfl (Nat.le_of_ble_eq_true rfl) rfl (Nat.le_refl _) (Nat.le_refl _) ?_
    refine c_X8_isLetter (x := y) (j := j + 0) hnw hE hV hv.1 ?_
    replace hv := hv.2
    refine sw_if_ne (tgt := 19) (dX8_bond.at 7 rfl) (by decide) (bz_rng _) (fun q => ?_) (fun q => ?_)
    · replace hv := hv.1 (bz_1 q)
      refine sw_aload_n (dX8_bond.at 10 rfl) rfl rfl ?_
      refine sw_getR (dX8_bond.at 11 rfl) fp_X8_65 (S_lt 0 (by decide)) (S_0 nw nx g) rfl rfl ?_
      refine sw_iload_n (dX8_bond.at 12 rfl) rfl rfl ?_
      refine sw_iload_n (dX8_bond.at 13 rfl) rfl rfl ?_
      exact hv
    · replace hv := hv.2 (bz_n1 q)
      refine sw_bipush (dX8_bond.at 8 rfl) (by decide) ?_
      exact sw_iret (dX8_bond.at 9 rfl) rfl (Nat.le_refl _) (Nat.le_refl _) hv

set_option maxHeartbeats 4000000 in
theorem c_X8_bond {G : GG} {j nw nx gn : Nat} {g : Nat → Sh} {c : Nat → Nat → Int} {post : Option AV → AM → Prop} {P : GD} {x y : Int} (hnw : nw = 21 ∨ nw = 35) (hE : EL c nw P) (hV : GV P) (p1 : -2147483648 ≤ x ∧ x < 2147483648) (p2 : -2147483648 ≤ y ∧ y < 2147483648) (K : post (some (vi (q_bond P x y))) (S nw nx g, 78 + gn, c)) : SM G (j + 2) mX8_bond [vr (0), vi (x), vi (y)] (S nw nx g, 78 + gn, c) 0 0 post := by
  refine sm_of wX8_bond rfl (Nat.le_of_ble_eq_true rfl) ?_
  have hN60 := GV_N hV
  have hR5 := GV_R hV
  by_cases hv : (0 ≤ x ∧ x < (gR P : Int)) ∧ 0 ≤ y ∧ y < (gR P : Int)
  · obtain ⟨x, rfl⟩ : ∃ n : Nat, x = (n : Int) := ⟨x.toNat, by omega⟩
    obtain ⟨y, rfl⟩ : ∃ n : Nat, y = (n : Int) := ⟨y.toNat, by omega⟩
    have e : q_bond P ((x : Nat) : Int) ((y : Nat) : Int) = ((gBd P x y : Nat) : Int) := by
      rw [q_bond, if_pos hv]
      simp only [Int.toNat_natCast]
    rw [e] at K
    have K1 : ∀ z : Int, z = (((gBd P x y : Nat) : Int)) → post (some (vi z)) (S nw nx g, 78 + gn, c) := fun z h => h ▸ K
    refine g_X8_bond_0n hnw hE hV ?_
    refine ⟨?_, ⟨fun q => ?_, fun q => ⟨?_, ⟨fun q => ⟨?_, ?_, ?_⟩, fun q => ?_⟩⟩⟩⟩
    all_goals first | exact K | omega | assumption | (exfalso; simp only [decide_eq_true_eq, decide_eq_false_iff_not] at *; omega) | (refine K1 _ ?_; first | (split <;> first | rfl | omega) | (simp [bz, *]; done))
  · have e : q_bond P x y = (-2) := by rw [q_bond, if_neg hv]
    rw [e] at K
    refine g_X8_bond_0 hnw hE hV ?_
    refine ⟨?_, ⟨fun q => ?_, fun q => ⟨?_, ⟨fun q => ?_, fun q => ?_⟩⟩⟩⟩
    all_goals first | exact K | omega | assumption | (exfalso; simp only [decide_eq_true_eq, decide_eq_false_iff_not] at *; omega)

def q_weakly (P : GD) (x y sd : Int) : Int := if ((0 ≤ x ∧ x < (gN P : Int)) ∧ 0 ≤ y ∧ y < (gN P : Int)) ∧ 0 ≤ sd ∧ sd < 2 then bz (gWk P x.toNat y.toNat sd.toNat) else (-2)
set_option maxHeartbeats 2000000 in
set_option maxRecDepth 20000 in
theorem g_X8_weakly_0n {G : GG} {j nw nx gn : Nat} {g : Nat → Sh} {c : Nat → Nat → Int} {post : Option AV → AM → Prop} {x : Nat} {y : Nat} {sd : Nat} {P : GD} (hnw : nw = 21 ∨ nw = 35) (hE : EL c nw P) (hV : GV P)  (hv : (-2147483648 ≤ ((x : Nat) : Int) ∧ ((x : Nat) : Int) < 2147483648) ∧ (-2147483648 ≤ ((y : Nat) : Int) ∧ ((y : Nat) : Int) < 2147483648) ∧ ((((decide ((0 ≤ ((x : Nat) : Int) ∧ ((x : Nat) : Int) < (gN P : Int)) ∧ 0 ≤ ((y : Nat) : Int) ∧ ((y : Nat) : Int) < (gN P : Int))) = false) → post (some (vi ((-2)))) (S nw nx g, 78 + gn, c)) ∧ (((decide ((0 ≤ ((x : Nat) : Int) ∧ ((x : Nat) : Int) < (gN P : Int)) ∧ 0 ≤ ((y : Nat) : Int) ∧ ((y : Nat) : Int) < (gN P : Int))) = true) → (-2147483648 ≤ ((sd : Nat) : Int) ∧ ((sd : Nat) : Int) < 2147483648) ∧ ((((decide (((sd : Nat) : Int) = 0 ∨ ((sd : Nat) : Int) = 1)) = true) → (x < gN P) ∧ (y < gN P) ∧ (sd < 2) ∧ ((((gWk P x y sd) = false) → post (some (vi (0))) (S nw nx g, 78 + gn, c)) ∧ (((gWk P x y sd) = true) → post (some (vi (1))) (S nw nx g, 78 + gn, c)))) ∧ (((decide (((sd : Nat) : Int) = 0 ∨ ((sd : Nat) : Int) = 1)) = false) → post (some (vi ((-2)))) (S nw nx g, 78 + gn, c)))))) :
    SW G (j + 2) mX8_weakly 0 [some (vr (0)), some (vi (((x : Nat) : Int))), some (vi (((y : Nat) : Int))), some (vi (((sd : Nat) : Int)))] [] (S nw nx g, 78 + gn, c) B0 post := by
  refine sw_aload_n (dX8_weakly.at 0 rfl) rfl rfl ?_
  refine sw_iload_n (dX8_weakly.at 1 rfl) rfl rfl ?_
  refine sw_iload_n (dX8_weakly.at 2 rfl) rfl rfl ?_
  refine sw_callV (B' := B0) (As := [vi (((x : Nat) : Int)), vi (((y : Nat) : Int))]) (mc := 0) (ms := 0) (dX8_weakly.at 3 rfl) lk_X8_157 (S_lt 0 (by decide)) (S_0 nw nx g) rfl rfl (Nat.le_of_ble_eq_true rfl) rfl (Nat.le_refl _) (Nat.le_refl _) ?_
  refine c_X8_arePair (x := ((x : Nat) : Int)) (y := ((y : Nat) : Int)) (j := j + 0) hnw hE hV hv.1 hv.2.1 ?_
  replace hv := hv.2.2
  refine sw_if_eq (tgt := 16) (dX8_weakly.at 4 rfl) (by decide) (bz_rng _) (fun q => ?_) (fun q => ?_)
  · replace hv := hv.1 (bz_0 q)
    refine sw_bipush (dX8_weakly.at 8 rfl) (by decide) ?_
    exact sw_iret (dX8_weakly.at 9 rfl) rfl (Nat.le_refl _) (Nat.le_refl _) hv
  · replace hv := hv.2 (bz_n0 q)
    refine sw_iload_n (dX8_weakly.at 5 rfl) rfl rfl ?_
    refine sw_callS (post' := post) (B' := B0) (As := [vi (((sd : Nat) : Int))]) (mc := 0) (ms := 0) (dX8_weakly.at 6 rfl) lk_X8_167 rfl rfl (Nat.le_of_ble_eq_true rfl) rfl (Nat.le_refl _) (Nat.le_refl _) ?_
    refine c_X8_isSide (x := ((sd : Nat) : Int)) (j := j + 1) hv.1 ?_
    replace hv := hv.2
    refine sw_if_ne (tgt := 19) (dX8_weakly.at 7 rfl) (by decide) (bz_rng _) (fun q => ?_) (fun q => ?_)
    · replace hv := hv.1 (bz_1 q)
      refine sw_aload_n (dX8_weakly.at 10 rfl) rfl rfl ?_
      refine sw_getR (dX8_weakly.at 11 rfl) fp_X8_65 (S_lt 0 (by decide)) (S_0 nw nx g) rfl rfl ?_
      refine sw_iload_n (dX8_weakly.at 12 rfl) rfl rfl ?_
      refine sw_iload_n (dX8_weakly.at 13 rfl) rfl rfl ?_
      refine sw_iload_n (dX8_weakly.at 14 rfl) rfl rfl ?_
      refine sw_callV (B' := B0) (As := [vi (((x : Nat) : Int)), vi (((y : Nat) : Int)), vi (((sd : Nat) : Int))]) (mc := 0) (ms := 0) (dX8_weakly.at 15 rfl) lk_X8_275 (S_e_lt hnw) (S_e hnw) rfl rfl (Nat.le_of_ble_eq_true rfl) rfl (Nat.le_refl _) (Nat.le_refl _) ?_
      refine c_X1_isWeaklyBelow (e := nw) (v := x) (w := y) (sd := sd) (j := j + 0) hnw hE hV hv.1 hv.2.1 hv.2.2.1 ?_
      replace hv := hv.2.2.2
      refine sw_if_eq (tgt := 36) (dX8_weakly.at 16 rfl) (by decide) (bz_rng _) (fun q => ?_) (fun q => ?_)
      · replace hv := hv.1 (bz_0 q)
        refine sw_iconst (dX8_weakly.at 19 rfl) ?_
        exact sw_iret (dX8_weakly.at 20 rfl) rfl (Nat.le_refl _) (Nat.le_refl _) hv
      · replace hv := hv.2 (bz_n0 q)
        refine sw_iconst (dX8_weakly.at 17 rfl) ?_
        refine sw_goto (tgt := 37) (dX8_weakly.at 18 rfl) (by decide) ?_
        exact sw_iret (dX8_weakly.at 20 rfl) rfl (Nat.le_refl _) (Nat.le_refl _) hv
    · replace hv := hv.2 (bz_n1 q)
      refine sw_bipush (dX8_weakly.at 8 rfl) (by decide) ?_
      exact sw_iret (dX8_weakly.at 9 rfl) rfl (Nat.le_refl _) (Nat.le_refl _) hv

set_option maxHeartbeats 2000000 in
set_option maxRecDepth 20000 in
theorem g_X8_weakly_0 {G : GG} {j nw nx gn : Nat} {g : Nat → Sh} {c : Nat → Nat → Int} {post : Option AV → AM → Prop} {x : Int} {y : Int} {sd : Int} {P : GD} (hnw : nw = 21 ∨ nw = 35) (hE : EL c nw P) (hV : GV P)  (hv : (-2147483648 ≤ x ∧ x < 2147483648) ∧ (-2147483648 ≤ y ∧ y < 2147483648) ∧ ((((decide ((0 ≤ x ∧ x < (gN P : Int)) ∧ 0 ≤ y ∧ y < (gN P : Int))) = false) → post (some (vi ((-2)))) (S nw nx g, 78 + gn, c)) ∧ (((decide ((0 ≤ x ∧ x < (gN P : Int)) ∧ 0 ≤ y ∧ y < (gN P : Int))) = true) → (-2147483648 ≤ sd ∧ sd < 2147483648) ∧ ((((decide (sd = 0 ∨ sd = 1)) = true) → SW G (j + 2) mX8_weakly 26 [some (vr (0)), some (vi (x)), some (vi (y)), some (vi (sd))] [vi (sd), vi (y), vi (x), vr (nw)] (S nw nx g, 78 + gn, c) B0 post) ∧ (((decide (sd = 0 ∨ sd = 1)) = false) → post (some (vi ((-2)))) (S nw nx g, 78 + gn, c)))))) :
    SW G (j + 2) mX8_weakly 0 [some (vr (0)), some (vi (x)), some (vi (y)), some (vi (sd))] [] (S nw nx g, 78 + gn, c) B0 post := by
  refine sw_aload_n (dX8_weakly.at 0 rfl) rfl rfl ?_
  refine sw_iload_n (dX8_weakly.at 1 rfl) rfl rfl ?_
  refine sw_iload_n (dX8_weakly.at 2 rfl) rfl rfl ?_
  refine sw_callV (B' := B0) (As := [vi (x), vi (y)]) (mc := 0) (ms := 0) (dX8_weakly.at 3 rfl) lk_X8_157 (S_lt 0 (by decide)) (S_0 nw nx g) rfl rfl (Nat.le_of_ble_eq_true rfl) rfl (Nat.le_refl _) (Nat.le_refl _) ?_
  refine c_X8_arePair (x := x) (y := y) (j := j + 0) hnw hE hV hv.1 hv.2.1 ?_
  replace hv := hv.2.2
  refine sw_if_eq (tgt := 16) (dX8_weakly.at 4 rfl) (by decide) (bz_rng _) (fun q => ?_) (fun q => ?_)
  · replace hv := hv.1 (bz_0 q)
    refine sw_bipush (dX8_weakly.at 8 rfl) (by decide) ?_
    exact sw_iret (dX8_weakly.at 9 rfl) rfl (Nat.le_refl _) (Nat.le_refl _) hv
  · replace hv := hv.2 (bz_n0 q)
    refine sw_iload_n (dX8_weakly.at 5 rfl) rfl rfl ?_
    refine sw_callS (post' := post) (B' := B0) (As := [vi (sd)]) (mc := 0) (ms := 0) (dX8_weakly.at 6 rfl) lk_X8_167 rfl rfl (Nat.le_of_ble_eq_true rfl) rfl (Nat.le_refl _) (Nat.le_refl _) ?_
    refine c_X8_isSide (x := sd) (j := j + 1) hv.1 ?_
    replace hv := hv.2
    refine sw_if_ne (tgt := 19) (dX8_weakly.at 7 rfl) (by decide) (bz_rng _) (fun q => ?_) (fun q => ?_)
    · replace hv := hv.1 (bz_1 q)
      refine sw_aload_n (dX8_weakly.at 10 rfl) rfl rfl ?_
      refine sw_getR (dX8_weakly.at 11 rfl) fp_X8_65 (S_lt 0 (by decide)) (S_0 nw nx g) rfl rfl ?_
      refine sw_iload_n (dX8_weakly.at 12 rfl) rfl rfl ?_
      refine sw_iload_n (dX8_weakly.at 13 rfl) rfl rfl ?_
      refine sw_iload_n (dX8_weakly.at 14 rfl) rfl rfl ?_
      exact hv
    · replace hv := hv.2 (bz_n1 q)
      refine sw_bipush (dX8_weakly.at 8 rfl) (by decide) ?_
      exact sw_iret (dX8_weakly.at 9 rfl) rfl (Nat.le_refl _) (Nat.le_refl _) hv

set_option maxHeartbeats 4000000 in
theorem c_X8_weakly {G : GG} {j nw nx gn : Nat} {g : Nat → Sh} {c : Nat → Nat → Int} {post : Option AV → AM → Prop} {P : GD} {x y sd : Int} (hnw : nw = 21 ∨ nw = 35) (hE : EL c nw P) (hV : GV P) (p1 : -2147483648 ≤ x ∧ x < 2147483648) (p2 : -2147483648 ≤ y ∧ y < 2147483648) (p3 : -2147483648 ≤ sd ∧ sd < 2147483648) (K : post (some (vi (q_weakly P x y sd))) (S nw nx g, 78 + gn, c)) : SM G (j + 3) mX8_weakly [vr (0), vi (x), vi (y), vi (sd)] (S nw nx g, 78 + gn, c) 0 0 post := by
  refine sm_of wX8_weakly rfl (Nat.le_of_ble_eq_true rfl) ?_
  have hN60 := GV_N hV
  have hR5 := GV_R hV
  by_cases hv : ((0 ≤ x ∧ x < (gN P : Int)) ∧ 0 ≤ y ∧ y < (gN P : Int)) ∧ 0 ≤ sd ∧ sd < 2
  · obtain ⟨x, rfl⟩ : ∃ n : Nat, x = (n : Int) := ⟨x.toNat, by omega⟩
    obtain ⟨y, rfl⟩ : ∃ n : Nat, y = (n : Int) := ⟨y.toNat, by omega⟩
    obtain ⟨sd, rfl⟩ : ∃ n : Nat, sd = (n : Int) := ⟨sd.toNat, by omega⟩
    have e : q_weakly P ((x : Nat) : Int) ((y : Nat) : Int) ((sd : Nat) : Int) = bz (gWk P x y sd) := by
      rw [q_weakly, if_pos hv]
      simp only [Int.toNat_natCast]
    rw [e] at K
    have K1 : ∀ z : Int, z = (bz (gWk P x y sd)) → post (some (vi z)) (S nw nx g, 78 + gn, c) := fun z h => h ▸ K
    have hx : x < gN P := by omega
    have fx := hV.2.2.1 x hx
    have hy : y < gN P := by omega
    have fy := hV.2.2.1 y hy
    refine g_X8_weakly_0n hnw hE hV ?_
    refine ⟨?_, ?_, ⟨fun q => ?_, fun q => ⟨?_, ⟨fun q => ⟨?_, ?_, ?_, ⟨fun q => ?_, fun q => ?_⟩⟩, fun q => ?_⟩⟩⟩⟩
    all_goals first | exact K | omega | assumption | (exfalso; simp only [decide_eq_true_eq, decide_eq_false_iff_not] at *; omega) | (refine K1 _ ?_; first | (split <;> first | rfl | omega) | (simp [bz, *]; done))
  · have e : q_weakly P x y sd = (-2) := by rw [q_weakly, if_neg hv]
    rw [e] at K
    refine g_X8_weakly_0 hnw hE hV ?_
    refine ⟨?_, ?_, ⟨fun q => ?_, fun q => ⟨?_, ⟨fun q => ?_, fun q => ?_⟩⟩⟩⟩
    all_goals first | exact K | omega | assumption | (exfalso; simp only [decide_eq_true_eq, decide_eq_false_iff_not] at *; omega)

def bCov (P : GD) (x sd : Nat) : Nat → Bool := fun z => if sd = 0 then gCov P z x else gCov P x z
set_option maxHeartbeats 2000000 in
set_option maxRecDepth 20000 in
theorem g_X8_covers_24 {G : GG} {j nw nx gn : Nat} {g : Nat → Sh} {c : Nat → Nat → Int} {post : Option AV → AM → Prop} {x : Nat} {sd : Nat} {P : GD} {z : Nat} (hnw : nw = 21 ∨ nw = 35) (hE : EL c nw P) (hV : GV P)  (hv : (z < 2147483648) ∧ (gN P < 2147483648) ∧ (((gN P ≤ z) → post (some (vl (((bitsU (bCov P x sd) z : Nat) : Int)))) (S nw nx g, 78 + gn, c)) ∧ ((¬ (gN P ≤ z)) → (sd < 2147483648) ∧ (((sd ≠ 0) → (x < gN P) ∧ (z < gN P) ∧ ((((gCov P x z) = false) → SW G (j + 3) mX8_covers 24 [some (vr (0)), some (vi (((x : Nat) : Int))), some (vi (((sd : Nat) : Int))), some (vl (((bitsU (bCov P x sd) z : Nat) : Int))), none, some (vi (((z + 1 : Nat) : Int))), none] [] (S nw nx g, 78 + gn, c) B0 post) ∧ (((gCov P x z) = true) → (z < 64) ∧ (SW G (j + 3) mX8_covers 24 [some (vr (0)), some (vi (((x : Nat) : Int))), some (vi (((sd : Nat) : Int))), some (vl ((((bitsU (bCov P x sd) z) ||| (1 * 2 ^ z) : Nat) : Int))), none, some (vi (((z + 1 : Nat) : Int))), none] [] (S nw nx g, 78 + gn, c) B0 post)))) ∧ ((sd = 0) → (z < gN P) ∧ (x < gN P) ∧ ((((gCov P z x) = false) → SW G (j + 3) mX8_covers 24 [some (vr (0)), some (vi (((x : Nat) : Int))), some (vi (((sd : Nat) : Int))), some (vl (((bitsU (bCov P x sd) z : Nat) : Int))), none, some (vi (((z + 1 : Nat) : Int))), none] [] (S nw nx g, 78 + gn, c) B0 post) ∧ (((gCov P z x) = true) → (z < 64) ∧ (SW G (j + 3) mX8_covers 24 [some (vr (0)), some (vi (((x : Nat) : Int))), some (vi (((sd : Nat) : Int))), some (vl ((((bitsU (bCov P x sd) z) ||| (1 * 2 ^ z) : Nat) : Int))), none, some (vi (((z + 1 : Nat) : Int))), none] [] (S nw nx g, 78 + gn, c) B0 post)))))))) :
    SW G (j + 3) mX8_covers 24 [some (vr (0)), some (vi (((x : Nat) : Int))), some (vi (((sd : Nat) : Int))), some (vl (((bitsU (bCov P x sd) z : Nat) : Int))), none, some (vi (((z : Nat) : Int))), none] [] (S nw nx g, 78 + gn, c) B0 post := by
  refine sw_iload (dX8_covers.at 13 rfl) rfl ?_
  refine sw_aload_n (dX8_covers.at 14 rfl) rfl rfl ?_
  refine sw_getR (dX8_covers.at 15 rfl) fp_X8_65 (S_lt 0 (by decide)) (S_0 nw nx g) rfl rfl ?_
  refine sw_getIE (w := ((gN P : Nat) : Int)) (dX8_covers.at 16 rfl) fp_X8_103 (S_e_lt hnw) (S_e hnw) rfl (EL_N hE) ?_
  refine sw_icmpN_ge z (gN P) (tgt := 83) (dX8_covers.at 17 rfl) (by decide) hv.1 hv.2.1 (fun q => ?_) (fun q => ?_)
  · replace hv := hv.2.2.1 q
    refine sw_lload_n (dX8_covers.at 42 rfl) rfl rfl ?_
    exact sw_lret (dX8_covers.at 43 rfl) rfl (Nat.le_refl _) (Nat.le_refl _) hv
  · replace hv := hv.2.2.2 q
    refine sw_iload_n (dX8_covers.at 18 rfl) rfl rfl ?_
    refine sw_ifN_ne sd (tgt := 53) (dX8_covers.at 19 rfl) (by decide) hv.1 (fun q => ?_) (fun q => ?_)
    · replace hv := hv.2.1 q
      refine sw_aload_n (dX8_covers.at 26 rfl) rfl rfl ?_
      refine sw_getR (dX8_covers.at 27 rfl) fp_X8_65 (S_lt 0 (by decide)) (S_0 nw nx g) rfl rfl ?_
      refine sw_iload_n (dX8_covers.at 28 rfl) rfl rfl ?_
      refine sw_iload (dX8_covers.at 29 rfl) rfl ?_
      refine sw_callV (B' := B0) (As := [vi (((x : Nat) : Int)), vi (((z : Nat) : Int))]) (mc := 0) (ms := 0) (dX8_covers.at 30 rfl) lk_X8_179 (S_e_lt hnw) (S_e hnw) rfl rfl (Nat.le_of_ble_eq_true rfl) rfl (Nat.le_refl _) (Nat.le_refl _) ?_
      refine c_X1_isCover (e := nw) (v := x) (w := z) (j := j + 0) hnw hE hV hv.1 hv.2.1 ?_
      replace hv := hv.2.2
      refine sw_istore (lo' := [some (vr (0)), some (vi (((x : Nat) : Int))), some (vi (((sd : Nat) : Int))), some (vl (((bitsU (bCov P x sd) z : Nat) : Int))), none, some (vi (((z : Nat) : Int))), some (vi (bz (gCov P x z)))]) (dX8_covers.at 31 rfl) (by decide) rfl ?_
      refine sw_iload (dX8_covers.at 32 rfl) rfl ?_
      refine sw_if_eq (tgt := 77) (dX8_covers.at 33 rfl) (by decide) (bz_rng _) (fun q => ?_) (fun q => ?_)
      · replace hv := hv.1 (bz_0 q)
        refine sw_iinc (lo' := [some (vr (0)), some (vi (((x : Nat) : Int))), some (vi (((sd : Nat) : Int))), some (vl (((bitsU (bCov P x sd) z : Nat) : Int))), none, some (vi (((z + 1 : Nat) : Int))), some (vi (bz (gCov P x z)))]) (dX8_covers.at 40 rfl) rfl (by decide) rfl ?_
        refine sw_goto (tgt := 24) (dX8_covers.at 41 rfl) (by decide) ?_
        exact sw_mask (bs := [true, true, true, true, false, true, false]) hv
      · replace hv := hv.2 (bz_n0 q)
        refine sw_lload_n (dX8_covers.at 34 rfl) rfl rfl ?_
        refine sw_lconst (z := 1) (dX8_covers.at 35 rfl) (by decide) ?_
        refine sw_iload (dX8_covers.at 36 rfl) rfl ?_
        refine sw_lshlN 1 z (dX8_covers.at 37 rfl) hv.1 ?_
        replace hv := hv.2
        refine sw_lorN (bitsU (bCov P x sd) z) (1 * 2 ^ z) (dX8_covers.at 38 rfl) ?_
        refine sw_lstore_n (lo' := [some (vr (0)), some (vi (((x : Nat) : Int))), some (vi (((sd : Nat) : Int))), some (vl ((((bitsU (bCov P x sd) z) ||| (1 * 2 ^ z) : Nat) : Int))), none, some (vi (((z : Nat) : Int))), some (vi (bz (gCov P x z)))]) (dX8_covers.at 39 rfl) rfl (by decide) rfl ?_
        refine sw_iinc (lo' := [some (vr (0)), some (vi (((x : Nat) : Int))), some (vi (((sd : Nat) : Int))), some (vl ((((bitsU (bCov P x sd) z) ||| (1 * 2 ^ z) : Nat) : Int))), none, some (vi (((z + 1 : Nat) : Int))), some (vi (bz (gCov P x z)))]) (dX8_covers.at 40 rfl) rfl (by decide) rfl ?_
        refine sw_goto (tgt := 24) (dX8_covers.at 41 rfl) (by decide) ?_
        exact sw_mask (bs := [true, true, true, true, false, true, false]) hv
    · replace hv := hv.2.2 q
      refine sw_aload_n (dX8_covers.at 20 rfl) rfl rfl ?_
      refine sw_getR (dX8_covers.at 21 rfl) fp_X8_65 (S_lt 0 (by decide)) (S_0 nw nx g) rfl rfl ?_
      refine sw_iload (dX8_covers.at 22 rfl) rfl ?_
      refine sw_iload_n (dX8_covers.at 23 rfl) rfl rfl ?_
      refine sw_callV (B' := B0) (As := [vi (((z : Nat) : Int)), vi (((x : Nat) : Int))]) (mc := 0) (ms := 0) (dX8_covers.at 24 rfl) lk_X8_179 (S_e_lt hnw) (S_e hnw) rfl rfl (Nat.le_of_ble_eq_true rfl) rfl (Nat.le_refl _) (Nat.le_refl _) ?_
      refine c_X1_isCover (e := nw) (v := z) (w := x) (j := j + 0) hnw hE hV hv.1 hv.2.1 ?_
      replace hv := hv.2.2
      refine sw_goto (tgt := 63) (dX8_covers.at 25 rfl) (by decide) ?_
      refine sw_istore (lo' := [some (vr (0)), some (vi (((x : Nat) : Int))), some (vi (((sd : Nat) : Int))), some (vl (((bitsU (bCov P x sd) z : Nat) : Int))), none, some (vi (((z : Nat) : Int))), some (vi (bz (gCov P z x)))]) (dX8_covers.at 31 rfl) (by decide) rfl ?_
      refine sw_iload (dX8_covers.at 32 rfl) rfl ?_
      refine sw_if_eq (tgt := 77) (dX8_covers.at 33 rfl) (by decide) (bz_rng _) (fun q => ?_) (fun q => ?_)
      · replace hv := hv.1 (bz_0 q)
        refine sw_iinc (lo' := [some (vr (0)), some (vi (((x : Nat) : Int))), some (vi (((sd : Nat) : Int))), some (vl (((bitsU (bCov P x sd) z : Nat) : Int))), none, some (vi (((z + 1 : Nat) : Int))), some (vi (bz (gCov P z x)))]) (dX8_covers.at 40 rfl) rfl (by decide) rfl ?_
        refine sw_goto (tgt := 24) (dX8_covers.at 41 rfl) (by decide) ?_
        exact sw_mask (bs := [true, true, true, true, false, true, false]) hv
      · replace hv := hv.2 (bz_n0 q)
        refine sw_lload_n (dX8_covers.at 34 rfl) rfl rfl ?_
        refine sw_lconst (z := 1) (dX8_covers.at 35 rfl) (by decide) ?_
        refine sw_iload (dX8_covers.at 36 rfl) rfl ?_
        refine sw_lshlN 1 z (dX8_covers.at 37 rfl) hv.1 ?_
        replace hv := hv.2
        refine sw_lorN (bitsU (bCov P x sd) z) (1 * 2 ^ z) (dX8_covers.at 38 rfl) ?_
        refine sw_lstore_n (lo' := [some (vr (0)), some (vi (((x : Nat) : Int))), some (vi (((sd : Nat) : Int))), some (vl ((((bitsU (bCov P x sd) z) ||| (1 * 2 ^ z) : Nat) : Int))), none, some (vi (((z : Nat) : Int))), some (vi (bz (gCov P z x)))]) (dX8_covers.at 39 rfl) rfl (by decide) rfl ?_
        refine sw_iinc (lo' := [some (vr (0)), some (vi (((x : Nat) : Int))), some (vi (((sd : Nat) : Int))), some (vl ((((bitsU (bCov P x sd) z) ||| (1 * 2 ^ z) : Nat) : Int))), none, some (vi (((z + 1 : Nat) : Int))), some (vi (bz (gCov P z x)))]) (dX8_covers.at 40 rfl) rfl (by decide) rfl ?_
        refine sw_goto (tgt := 24) (dX8_covers.at 41 rfl) (by decide) ?_
        exact sw_mask (bs := [true, true, true, true, false, true, false]) hv

set_option maxHeartbeats 2000000 in
theorem lp_X8_covers_24 {G : GG} {j nw nx gn : Nat} {g : Nat → Sh} {c : Nat → Nat → Int} {post : Option AV → AM → Prop} {P : GD} {x : Nat} {sd : Nat} (hnw : nw = 21 ∨ nw = 35) (hE : EL c nw P) (hV : GV P) (hx0 : x < gN P) (hsd : sd < 2) (K : post (some (vl (((bitsU (bCov P x sd) (gN P) : Nat) : Int)))) (S nw nx g, 78 + gn, c)) : ∀ k z : Nat, z + k = gN P → SW G (j + 3) mX8_covers 24 [some (vr (0)), some (vi (((x : Nat) : Int))), some (vi (((sd : Nat) : Int))), some (vl (((bitsU (bCov P x sd) z : Nat) : Int))), none, some (vi (((z : Nat) : Int))), none] [] (S nw nx g, 78 + gn, c) B0 post := by
  intro k
  induction k with
  | zero =>
    intro z hx
    refine g_X8_covers_24 hnw hE hV ?_
    have := GV_N hV
    have hx2 : z = gN P := by omega
    subst hx2
    refine ⟨?_, ?_, ⟨fun q => ?_, fun q => ⟨?_, ⟨fun q => ⟨?_, ?_, ⟨fun q => ?_, fun q => ⟨?_, ?_⟩⟩⟩, fun q => ⟨?_, ?_, ⟨fun q => ?_, fun q => ⟨?_, ?_⟩⟩⟩⟩⟩⟩⟩
    all_goals first | exact K | omega | (exfalso; omega)
  | succ k ih =>
    intro z hx
    refine g_X8_covers_24 hnw hE hV ?_
    have := GV_N hV
    have hi := ih (z + 1) (by omega)
    simp only [bitsU, bCov] at hi
    refine ⟨?_, ?_, ⟨fun q => ?_, fun q => ⟨?_, ⟨fun q => ⟨?_, ?_, ⟨fun q => ?_, fun q => ⟨?_, ?_⟩⟩⟩, fun q => ⟨?_, ?_, ⟨fun q => ?_, fun q => ⟨?_, ?_⟩⟩⟩⟩⟩⟩⟩
    all_goals first | omega | (exfalso; omega) | assumption | exact hi | (simp only [*, if_true, if_false, ite_true, ite_false, Bool.false_eq_true, and_true, true_and, and_false, false_and, Bool.and_true, Bool.and_false, Bool.true_and, Bool.false_and, decide_true, decide_false] at hi; exact hi) | (simp only [*, if_true, if_false, ite_true, ite_false, Bool.false_eq_true, and_true, true_and, and_false, false_and, Bool.and_true, Bool.and_false, Bool.true_and, Bool.false_and, decide_true, decide_false] at hi ⊢; exact hi)

def q_covers (P : GD) (x sd : Int) : Int := if 0 ≤ x ∧ x < (gN P : Int) ∧ 0 ≤ sd ∧ sd < 2 then ((bitsU (bCov P x.toNat sd.toNat) (gN P) : Nat) : Int) else (-2)
set_option maxHeartbeats 2000000 in
set_option maxRecDepth 20000 in
theorem g_X8_covers_0n {G : GG} {j nw nx gn : Nat} {g : Nat → Sh} {c : Nat → Nat → Int} {post : Option AV → AM → Prop} {x : Nat} {sd : Nat} {P : GD} (hnw : nw = 21 ∨ nw = 35) (hE : EL c nw P) (hV : GV P)  (hv : (-2147483648 ≤ ((x : Nat) : Int) ∧ ((x : Nat) : Int) < 2147483648) ∧ ((((decide (0 ≤ ((x : Nat) : Int) ∧ ((x : Nat) : Int) < (gN P : Int))) = false) → post (some (vl ((-2)))) (S nw nx g, 78 + gn, c)) ∧ (((decide (0 ≤ ((x : Nat) : Int) ∧ ((x : Nat) : Int) < (gN P : Int))) = true) → (-2147483648 ≤ ((sd : Nat) : Int) ∧ ((sd : Nat) : Int) < 2147483648) ∧ ((((decide (((sd : Nat) : Int) = 0 ∨ ((sd : Nat) : Int) = 1)) = true) → SW G (j + 3) mX8_covers 24 [some (vr (0)), some (vi (((x : Nat) : Int))), some (vi (((sd : Nat) : Int))), some (vl (0)), none, some (vi (0)), none] [] (S nw nx g, 78 + gn, c) B0 post) ∧ (((decide (((sd : Nat) : Int) = 0 ∨ ((sd : Nat) : Int) = 1)) = false) → post (some (vl ((-2)))) (S nw nx g, 78 + gn, c)))))) :
    SW G (j + 3) mX8_covers 0 [some (vr (0)), some (vi (((x : Nat) : Int))), some (vi (((sd : Nat) : Int))), none, none, none, none] [] (S nw nx g, 78 + gn, c) B0 post := by
  refine sw_aload_n (dX8_covers.at 0 rfl) rfl rfl ?_
  refine sw_iload_n (dX8_covers.at 1 rfl) rfl rfl ?_
  refine sw_callV (B' := B0) (As := [vi (((x : Nat) : Int))]) (mc := 0) (ms := 0) (dX8_covers.at 2 rfl) lk_X8_130 (S_lt 0 (by decide)) (S_0 nw nx g) rfl rfl (Nat.le_of_ble_eq_true rfl) rfl (Nat.le_refl _) (Nat.le_refl _) ?_
  refine c_X8_isElementP (x := ((x : Nat) : Int)) (j := j + 2) hnw hE hV hv.1 ?_
  replace hv := hv.2
  refine sw_if_eq (tgt := 15) (dX8_covers.at 3 rfl) (by decide) (bz_rng _) (fun q => ?_) (fun q => ?_)
  · replace hv := hv.1 (bz_0 q)
    refine sw_ldc2 (z := (-2)) (dX8_covers.at 7 rfl) kc_X8_147 (by decide) ?_
    exact sw_lret (dX8_covers.at 8 rfl) rfl (Nat.le_refl _) (Nat.le_refl _) hv
  · replace hv := hv.2 (bz_n0 q)
    refine sw_iload_n (dX8_covers.at 4 rfl) rfl rfl ?_
    refine sw_callS (post' := post) (B' := B0) (As := [vi (((sd : Nat) : Int))]) (mc := 0) (ms := 0) (dX8_covers.at 5 rfl) lk_X8_167 rfl rfl (Nat.le_of_ble_eq_true rfl) rfl (Nat.le_refl _) (Nat.le_refl _) ?_
    refine c_X8_isSide (x := ((sd : Nat) : Int)) (j := j + 2) hv.1 ?_
    replace hv := hv.2
    refine sw_if_ne (tgt := 19) (dX8_covers.at 6 rfl) (by decide) (bz_rng _) (fun q => ?_) (fun q => ?_)
    · replace hv := hv.1 (bz_1 q)
      refine sw_lconst (z := 0) (dX8_covers.at 9 rfl) (by decide) ?_
      refine sw_lstore_n (lo' := [some (vr (0)), some (vi (((x : Nat) : Int))), some (vi (((sd : Nat) : Int))), some (vl (0)), none, none, none]) (dX8_covers.at 10 rfl) rfl (by decide) rfl ?_
      refine sw_iconst (dX8_covers.at 11 rfl) ?_
      refine sw_istore (lo' := [some (vr (0)), some (vi (((x : Nat) : Int))), some (vi (((sd : Nat) : Int))), some (vl (0)), none, some (vi (0)), none]) (dX8_covers.at 12 rfl) (by decide) rfl ?_
      exact hv
    · replace hv := hv.2 (bz_n1 q)
      refine sw_ldc2 (z := (-2)) (dX8_covers.at 7 rfl) kc_X8_147 (by decide) ?_
      exact sw_lret (dX8_covers.at 8 rfl) rfl (Nat.le_refl _) (Nat.le_refl _) hv

set_option maxHeartbeats 2000000 in
set_option maxRecDepth 20000 in
theorem g_X8_covers_0 {G : GG} {j nw nx gn : Nat} {g : Nat → Sh} {c : Nat → Nat → Int} {post : Option AV → AM → Prop} {x : Int} {sd : Int} {P : GD} (hnw : nw = 21 ∨ nw = 35) (hE : EL c nw P) (hV : GV P)  (hv : (-2147483648 ≤ x ∧ x < 2147483648) ∧ ((((decide (0 ≤ x ∧ x < (gN P : Int))) = false) → post (some (vl ((-2)))) (S nw nx g, 78 + gn, c)) ∧ (((decide (0 ≤ x ∧ x < (gN P : Int))) = true) → (-2147483648 ≤ sd ∧ sd < 2147483648) ∧ ((((decide (sd = 0 ∨ sd = 1)) = true) → SW G (j + 3) mX8_covers 24 [some (vr (0)), some (vi (x)), some (vi (sd)), some (vl (0)), none, some (vi (0)), none] [] (S nw nx g, 78 + gn, c) B0 post) ∧ (((decide (sd = 0 ∨ sd = 1)) = false) → post (some (vl ((-2)))) (S nw nx g, 78 + gn, c)))))) :
    SW G (j + 3) mX8_covers 0 [some (vr (0)), some (vi (x)), some (vi (sd)), none, none, none, none] [] (S nw nx g, 78 + gn, c) B0 post := by
  refine sw_aload_n (dX8_covers.at 0 rfl) rfl rfl ?_
  refine sw_iload_n (dX8_covers.at 1 rfl) rfl rfl ?_
  refine sw_callV (B' := B0) (As := [vi (x)]) (mc := 0) (ms := 0) (dX8_covers.at 2 rfl) lk_X8_130 (S_lt 0 (by decide)) (S_0 nw nx g) rfl rfl (Nat.le_of_ble_eq_true rfl) rfl (Nat.le_refl _) (Nat.le_refl _) ?_
  refine c_X8_isElementP (x := x) (j := j + 2) hnw hE hV hv.1 ?_
  replace hv := hv.2
  refine sw_if_eq (tgt := 15) (dX8_covers.at 3 rfl) (by decide) (bz_rng _) (fun q => ?_) (fun q => ?_)
  · replace hv := hv.1 (bz_0 q)
    refine sw_ldc2 (z := (-2)) (dX8_covers.at 7 rfl) kc_X8_147 (by decide) ?_
    exact sw_lret (dX8_covers.at 8 rfl) rfl (Nat.le_refl _) (Nat.le_refl _) hv
  · replace hv := hv.2 (bz_n0 q)
    refine sw_iload_n (dX8_covers.at 4 rfl) rfl rfl ?_
    refine sw_callS (post' := post) (B' := B0) (As := [vi (sd)]) (mc := 0) (ms := 0) (dX8_covers.at 5 rfl) lk_X8_167 rfl rfl (Nat.le_of_ble_eq_true rfl) rfl (Nat.le_refl _) (Nat.le_refl _) ?_
    refine c_X8_isSide (x := sd) (j := j + 2) hv.1 ?_
    replace hv := hv.2
    refine sw_if_ne (tgt := 19) (dX8_covers.at 6 rfl) (by decide) (bz_rng _) (fun q => ?_) (fun q => ?_)
    · replace hv := hv.1 (bz_1 q)
      refine sw_lconst (z := 0) (dX8_covers.at 9 rfl) (by decide) ?_
      refine sw_lstore_n (lo' := [some (vr (0)), some (vi (x)), some (vi (sd)), some (vl (0)), none, none, none]) (dX8_covers.at 10 rfl) rfl (by decide) rfl ?_
      refine sw_iconst (dX8_covers.at 11 rfl) ?_
      refine sw_istore (lo' := [some (vr (0)), some (vi (x)), some (vi (sd)), some (vl (0)), none, some (vi (0)), none]) (dX8_covers.at 12 rfl) (by decide) rfl ?_
      exact hv
    · replace hv := hv.2 (bz_n1 q)
      refine sw_ldc2 (z := (-2)) (dX8_covers.at 7 rfl) kc_X8_147 (by decide) ?_
      exact sw_lret (dX8_covers.at 8 rfl) rfl (Nat.le_refl _) (Nat.le_refl _) hv

set_option maxHeartbeats 4000000 in
theorem c_X8_covers {G : GG} {j nw nx gn : Nat} {g : Nat → Sh} {c : Nat → Nat → Int} {post : Option AV → AM → Prop} {P : GD} {x sd : Int} (hnw : nw = 21 ∨ nw = 35) (hE : EL c nw P) (hV : GV P) (p1 : -2147483648 ≤ x ∧ x < 2147483648) (p2 : -2147483648 ≤ sd ∧ sd < 2147483648) (K : post (some (vl (q_covers P x sd))) (S nw nx g, 78 + gn, c)) : SM G (j + 4) mX8_covers [vr (0), vi (x), vi (sd)] (S nw nx g, 78 + gn, c) 0 0 post := by
  refine sm_of wX8_covers rfl (Nat.le_of_ble_eq_true rfl) ?_
  have hN60 := GV_N hV
  have hR5 := GV_R hV
  by_cases hv : 0 ≤ x ∧ x < (gN P : Int) ∧ 0 ≤ sd ∧ sd < 2
  · obtain ⟨x, rfl⟩ : ∃ n : Nat, x = (n : Int) := ⟨x.toNat, by omega⟩
    obtain ⟨sd, rfl⟩ : ∃ n : Nat, sd = (n : Int) := ⟨sd.toNat, by omega⟩
    have e : q_covers P ((x : Nat) : Int) ((sd : Nat) : Int) = ((bitsU (bCov P x sd) (gN P) : Nat) : Int) := by
      rw [q_covers, if_pos hv]
      simp only [Int.toNat_natCast]
    rw [e] at K
    have K1 : ∀ z : Int, z = (((bitsU (bCov P x sd) (gN P) : Nat) : Int)) → post (some (vl z)) (S nw nx g, 78 + gn, c) := fun z h => h ▸ K
    have hx : x < gN P := by omega
    have fx := hV.2.2.1 x hx
    refine g_X8_covers_0n hnw hE hV ?_
    refine ⟨?_, ⟨fun q => ?_, fun q => ⟨?_, ⟨fun q => ?_, fun q => ?_⟩⟩⟩⟩
    all_goals first | exact lp_X8_covers_24 hnw hE hV hx (by omega) K (gN P) 0 (by omega) | omega | assumption | (exfalso; simp only [decide_eq_true_eq, decide_eq_false_iff_not] at *; omega)
  · have e : q_covers P x sd = (-2) := by rw [q_covers, if_neg hv]
    rw [e] at K
    refine g_X8_covers_0 hnw hE hV ?_
    refine ⟨?_, ⟨fun q => ?_, fun q => ⟨?_, ⟨fun q => ?_, fun q => ?_⟩⟩⟩⟩
    all_goals first | exact K | omega | assumption | (exfalso; simp only [decide_eq_true_eq, decide_eq_false_iff_not] at *; omega)

