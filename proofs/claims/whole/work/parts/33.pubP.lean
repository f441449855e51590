def q_p (P : GD) (T : PT) (x y k : Int) : Int := if ((0 ≤ x ∧ x < (gN P : Int)) ∧ 0 ≤ y ∧ y < (gN P : Int)) ∧ 0 ≤ k then if k.toNat < 8 then T x.toNat y.toNat k.toNat else 0 else (-1000000)
set_option maxHeartbeats 2000000 in
set_option maxRecDepth 20000 in
theorem g_X8_p_0n {G : GG} {j nw nx gn : Nat} {g : Nat → Sh} {c : Nat → Nat → Int} {post : Option AV → AM → Prop} {x : Nat} {y : Nat} {k : Nat} {P : GD} {T : PT} (hnw : nw = 21 ∨ nw = 35) (hE : EL c nw P) (hV : GV P) (hT : HT P T) (hR : PR P T c)  (hv : (-2147483648 ≤ ((x : Nat) : Int) ∧ ((x : Nat) : Int) < 2147483648) ∧ (-2147483648 ≤ ((y : Nat) : Int) ∧ ((y : Nat) : Int) < 2147483648) ∧ ((((decide ((0 ≤ ((x : Nat) : Int) ∧ ((x : Nat) : Int) < (gN P : Int)) ∧ 0 ≤ ((y : Nat) : Int) ∧ ((y : Nat) : Int) < (gN P : Int))) = false) → post (some (vi ((-1000000)))) (S nw nx g, 78 + gn, c)) ∧ (((decide ((0 ≤ ((x : Nat) : Int) ∧ ((x : Nat) : Int) < (gN P : Int)) ∧ 0 ≤ ((y : Nat) : Int) ∧ ((y : Nat) : Int) < (gN P : Int))) = true) → (k < 2147483648) ∧ (((0 ≤ ((k : Nat) : Int)) → (PR P T c) ∧ (∀ c_1 : Nat → Nat → Int, ((∀ a, a ≠ 5 → a ≠ 6 → c_1 a = c a) ∧ c_1 5 1 = 1 ∧ AT P T (gN P) (c_1 6)) → (x < 60) ∧ (y < 60) ∧ (k < 2147483648) ∧ (post (some (vi (if k < 8 then c_1 6 ((x * 60 + y) * 8 + k) else 0))) (S nw nx g, 78 + gn, c_1)))) ∧ ((¬ (0 ≤ ((k : Nat) : Int))) → post (some (vi ((-1000000)))) (S nw nx g, 78 + gn, c)))))) :
    SW G (j + 5) mX8_p 0 [some (vr (0)), some (vi (((x : Nat) : Int))), some (vi (((y : Nat) : Int))), some (vi (((k : Nat) : Int)))] [] (S nw nx g, 78 + gn, c) B0 post := by
  refine sw_aload_n (dX8_p.at 0 rfl) rfl rfl ?_
  refine sw_iload_n (dX8_p.at 1 rfl) rfl rfl ?_
  refine sw_iload_n (dX8_p.at 2 rfl) rfl rfl ?_
  refine sw_callV (B' := B0) (As := [vi (((x : Nat) : Int)), vi (((y : Nat) : Int))]) (mc := 0) (ms := 0) (dX8_p.at 3 rfl) lk_X8_157 (S_lt 0 (by decide)) (S_0 nw nx g) rfl rfl (Nat.le_of_ble_eq_true rfl) rfl (Nat.le_refl _) (Nat.le_refl _) ?_
  refine c_X8_arePair (x := ((x : Nat) : Int)) (y := ((y : Nat) : Int)) (j := j + 3) hnw hE hV hv.1 hv.2.1 ?_
  replace hv := hv.2.2
  refine sw_if_eq (tgt := 13) (dX8_p.at 4 rfl) (by decide) (bz_rng _) (fun q => ?_) (fun q => ?_)
  · replace hv := hv.1 (bz_0 q)
    refine sw_ldc (z := (-1000000)) (dX8_p.at 7 rfl) kc_X8_196 (by decide) ?_
    exact sw_iret (dX8_p.at 8 rfl) rfl (Nat.le_refl _) (Nat.le_refl _) hv
  · replace hv := hv.2 (bz_n0 q)
    refine sw_iload_n (dX8_p.at 5 rfl) rfl rfl ?_
    refine sw_if_ge (tgt := 16) (dX8_p.at 6 rfl) (by decide) (nrng hv.1) (fun q => ?_) (fun q => ?_)
    · replace hv := hv.2.1 q
      refine sw_aload_n (dX8_p.at 9 rfl) rfl rfl ?_
      refine sw_getR (dX8_p.at 10 rfl) fp_X8_26 (S_lt 0 (by decide)) (S_0 nw nx g) rfl rfl ?_
      refine sw_aload_n (dX8_p.at 11 rfl) rfl rfl ?_
      refine sw_getR (dX8_p.at 12 rfl) fp_X8_65 (S_lt 0 (by decide)) (S_0 nw nx g) rfl rfl ?_
      refine sw_callV (B' := B0) (As := [vr (nw)]) (mc := 0) (ms := 0) (dX8_p.at 13 rfl) lk_X8_204 (S_lt 5 (by decide)) (S_5 nw nx g) rfl rfl (Nat.le_of_ble_eq_true rfl) rfl (Nat.le_refl _) (Nat.le_refl _) ?_
      refine c_X4_prepare (e := nw) (j := j + 0) hnw hE hV hT hv.1 (fun c_1 h_1 => ?_)
      replace hv := hv.2 c_1 h_1
      refine sw_aload_n (dX8_p.at 14 rfl) rfl rfl ?_
      refine sw_getR (dX8_p.at 15 rfl) fp_X8_26 (S_lt 0 (by decide)) (S_0 nw nx g) rfl rfl ?_
      refine sw_iload_n (dX8_p.at 16 rfl) rfl rfl ?_
      refine sw_iload_n (dX8_p.at 17 rfl) rfl rfl ?_
      refine sw_iload_n (dX8_p.at 18 rfl) rfl rfl ?_
      refine sw_callV (B' := B0) (As := [vi (((x : Nat) : Int)), vi (((y : Nat) : Int)), vi (((k : Nat) : Int))]) (mc := 0) (ms := 0) (dX8_p.at 19 rfl) lk_X8_208 (S_lt 5 (by decide)) (S_5 nw nx g) rfl rfl (Nat.le_of_ble_eq_true rfl) rfl (Nat.le_refl _) (Nat.le_refl _) ?_
      refine c_X4_number (v := x) (w := y) (k := k) (j := j + 4) hv.1 hv.2.1 hv.2.2.1 ?_
      replace hv := hv.2.2.2
      exact sw_iret (dX8_p.at 20 rfl) rfl (Nat.le_refl _) (Nat.le_refl _) hv
    · replace hv := hv.2.2 q
      refine sw_ldc (z := (-1000000)) (dX8_p.at 7 rfl) kc_X8_196 (by decide) ?_
      exact sw_iret (dX8_p.at 8 rfl) rfl (Nat.le_refl _) (Nat.le_refl _) hv

set_option maxHeartbeats 2000000 in
set_option maxRecDepth 20000 in
theorem g_X8_p_0 {G : GG} {j nw nx gn : Nat} {g : Nat → Sh} {c : Nat → Nat → Int} {post : Option AV → AM → Prop} {x : Int} {y : Int} {k : Int} {P : GD} {T : PT} (hnw : nw = 21 ∨ nw = 35) (hE : EL c nw P) (hV : GV P) (hT : HT P T) (hR : PR P T c)  (hv : (-2147483648 ≤ x ∧ x < 2147483648) ∧ (-2147483648 ≤ y ∧ y < 2147483648) ∧ ((((decide ((0 ≤ x ∧ x < (gN P : Int)) ∧ 0 ≤ y ∧ y < (gN P : Int))) = false) → post (some (vi ((-1000000)))) (S nw nx g, 78 + gn, c)) ∧ (((decide ((0 ≤ x ∧ x < (gN P : Int)) ∧ 0 ≤ y ∧ y < (gN P : Int))) = true) → (-2147483648 ≤ k ∧ k < 2147483648) ∧ (((0 ≤ k) → (PR P T c) ∧ (∀ c_1 : Nat → Nat → Int, ((∀ a, a ≠ 5 → a ≠ 6 → c_1 a = c a) ∧ c_1 5 1 = 1 ∧ AT P T (gN P) (c_1 6)) → SW G (j + 5) mX8_p 34 [some (vr (0)), some (vi (x)), some (vi (y)), some (vi (k))] [vi (k), vi (y), vi (x), vr (5)] (S nw nx g, 78 + gn, c_1) B0 post)) ∧ ((¬ (0 ≤ k)) → post (some (vi ((-1000000)))) (S nw nx g, 78 + gn, c)))))) :
    SW G (j + 5) mX8_p 0 [some (vr (0)), some (vi (x)), some (vi (y)), some (vi (k))] [] (S nw nx g, 78 + gn, c) B0 post := by
  refine sw_aload_n (dX8_p.at 0 rfl) rfl rfl ?_
  refine sw_iload_n (dX8_p.at 1 rfl) rfl rfl ?_
  refine sw_iload_n (dX8_p.at 2 rfl) rfl rfl ?_
  refine sw_callV (B' := B0) (As := [vi (x), vi (y)]) (mc := 0) (ms := 0) (dX8_p.at 3 rfl) lk_X8_157 (S_lt 0 (by decide)) (S_0 nw nx g) rfl rfl (Nat.le_of_ble_eq_true rfl) rfl (Nat.le_refl _) (Nat.le_refl _) ?_
  refine c_X8_arePair (x := x) (y := y) (j := j + 3) hnw hE hV hv.1 hv.2.1 ?_
  replace hv := hv.2.2
  refine sw_if_eq (tgt := 13) (dX8_p.at 4 rfl) (by decide) (bz_rng _) (fun q => ?_) (fun q => ?_)
  · replace hv := hv.1 (bz_0 q)
    refine sw_ldc (z := (-1000000)) (dX8_p.at 7 rfl) kc_X8_196 (by decide) ?_
    exact sw_iret (dX8_p.at 8 rfl) rfl (Nat.le_refl _) (Nat.le_refl _) hv
  · replace hv := hv.2 (bz_n0 q)
    refine sw_iload_n (dX8_p.at 5 rfl) rfl rfl ?_
    refine sw_if_ge (tgt := 16) (dX8_p.at 6 rfl) (by decide) hv.1 (fun q => ?_) (fun q => ?_)
    · replace hv := hv.2.1 q
      refine sw_aload_n (dX8_p.at 9 rfl) rfl rfl ?_
      refine sw_getR (dX8_p.at 10 rfl) fp_X8_26 (S_lt 0 (by decide)) (S_0 nw nx g) rfl rfl ?_
      refine sw_aload_n (dX8_p.at 11 rfl) rfl rfl ?_
      refine sw_getR (dX8_p.at 12 rfl) fp_X8_65 (S_lt 0 (by decide)) (S_0 nw nx g) rfl rfl ?_
      refine sw_callV (B' := B0) (As := [vr (nw)]) (mc := 0) (ms := 0) (dX8_p.at 13 rfl) lk_X8_204 (S_lt 5 (by decide)) (S_5 nw nx g) rfl rfl (Nat.le_of_ble_eq_true rfl) rfl (Nat.le_refl _) (Nat.le_refl _) ?_
      refine c_X4_prepare (e := nw) (j := j + 0) hnw hE hV hT hv.1 (fun c_1 h_1 => ?_)
      replace hv := hv.2 c_1 h_1
      refine sw_aload_n (dX8_p.at 14 rfl) rfl rfl ?_
      refine sw_getR (dX8_p.at 15 rfl) fp_X8_26 (S_lt 0 (by decide)) (S_0 nw nx g) rfl rfl ?_
      refine sw_iload_n (dX8_p.at 16 rfl) rfl rfl ?_
      refine sw_iload_n (dX8_p.at 17 rfl) rfl rfl ?_
      refine sw_iload_n (dX8_p.at 18 rfl) rfl rfl ?_
      exact hv
    · replace hv := hv.2.2 q
      refine sw_ldc (z := (-1000000)) (dX8_p.at 7 rfl) kc_X8_196 (by decide) ?_
      exact sw_iret (dX8_p.at 8 rfl) rfl (Nat.le_refl _) (Nat.le_refl _) hv

set_option maxHeartbeats 4000000 in
theorem c_X8_p {G : GG} {j nw nx gn : Nat} {g : Nat → Sh} {c : Nat → Nat → Int} {post : Option AV → AM → Prop} {P : GD} {T : PT} {x y k : Int} (hnw : nw = 21 ∨ nw = 35) (hE : EL c nw P) (hV : GV P) (hT : HT P T) (hR : PR P T c) (p1 : -2147483648 ≤ x ∧ x < 2147483648) (p2 : -2147483648 ≤ y ∧ y < 2147483648) (p3 : -2147483648 ≤ k ∧ k < 2147483648) (K : ∀ c2 : Nat → Nat → Int, ((∀ a, a ≠ 5 → a ≠ 6 → c2 a = c a) ∧ PR P T c2) → post (some (vi (q_p P T x y k))) (S nw nx g, 78 + gn, c2)) : SM G (j + 6) mX8_p [vr (0), vi (x), vi (y), vi (k)] (S nw nx g, 78 + gn, c) 0 0 post := by
  refine sm_of wX8_p rfl (Nat.le_of_ble_eq_true rfl) ?_
  have hN60 := GV_N hV
  have hR5 := GV_R hV
  by_cases hv : ((0 ≤ x ∧ x < (gN P : Int)) ∧ 0 ≤ y ∧ y < (gN P : Int)) ∧ 0 ≤ k
  · obtain ⟨x, rfl⟩ : ∃ n : Nat, x = (n : Int) := ⟨x.toNat, by omega⟩
    obtain ⟨y, rfl⟩ : ∃ n : Nat, y = (n : Int) := ⟨y.toNat, by omega⟩
    obtain ⟨k, rfl⟩ : ∃ n : Nat, k = (n : Int) := ⟨k.toNat, by omega⟩
    have e : q_p P T ((x : Nat) : Int) ((y : Nat) : Int) ((k : Nat) : Int) = if k < 8 then T x y k else 0 := by
      rw [q_p, if_pos hv]
      simp only [Int.toNat_natCast]
    rw [e] at K
    refine g_X8_p_0n hnw hE hV hT hR ?_
    refine ⟨?_, ?_, ⟨fun q => ?_, fun q => ⟨?_, ⟨fun q => ⟨?_, fun c_1 h_1 => ⟨?_, ?_, ?_, ?_⟩⟩, fun q => ?_⟩⟩⟩⟩
    all_goals first | omega | assumption | (exfalso; simp only [decide_eq_true_eq, decide_eq_false_iff_not] at *; omega) | (have K2 := K c_1 ⟨h_1.1, Or.inr h_1.2⟩; have e9 : (if k < 8 then c_1 6 ((x * 60 + y) * 8 + k) else 0) = (if k < 8 then T x y k else 0) := (by split <;> first | rfl | exact h_1.2.2 x y k (by omega) (by omega) (by assumption)); rw [e9]; exact K2)
  · have e : q_p P T x y k = (-1000000) := by rw [q_p, if_neg hv]
    rw [e] at K
    refine g_X8_p_0 hnw hE hV hT hR ?_
    have K := K c ⟨fun _ _ _ => rfl, hR⟩
    refine ⟨?_, ?_, ⟨fun q => ?_, fun q => ⟨?_, ⟨fun q => ⟨?_, fun c_1 h_1 => ?_⟩, fun q => ?_⟩⟩⟩⟩
    all_goals first | exact K | omega | assumption | (exfalso; simp only [decide_eq_true_eq, decide_eq_false_iff_not] at *; omega)

