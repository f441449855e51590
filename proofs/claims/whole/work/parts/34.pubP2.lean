def smF (T : PT) (x : Nat) : Nat → Nat → Int
  | 0, _ => 1
  | k + 1, z => if 0 < hpT T z x then 0 else smF T x k (z + 1)
set_option maxHeartbeats 2000000 in
set_option maxRecDepth 20000 in
theorem g_X8_smooth_24 {G : GG} {j nw nx gn : Nat} {g : Nat → Sh} {c : Nat → Nat → Int} {post : Option AV → AM → Prop} {x : Nat} {P : GD} {z : Nat} (hnw : nw = 21 ∨ nw = 35) (hE : EL c nw P) (hV : GV P)  (hv : (z < 2147483648) ∧ (gN P < 2147483648) ∧ (((gN P ≤ z) → post (some (vi (1))) (S nw nx g, 78 + gn, c)) ∧ ((¬ (gN P ≤ z)) → (z < 60) ∧ (x < 60) ∧ (∀ k, k < 8 → -2147483648 ≤ c 6 ((z * 60 + x) * 8 + k) ∧ c 6 ((z * 60 + x) * 8 + k) < 2147483648) ∧ ((((decide (0 < hpF (c 6) ((z * 60 + x) * 8) 8)) = false) → SW G (j + 5) mX8_smooth 24 [some (vr (0)), some (vi (((x : Nat) : Int))), some (vi (((z + 1 : Nat) : Int)))] [] (S nw nx g, 78 + gn, c) B0 post) ∧ (((decide (0 < hpF (c 6) ((z * 60 + x) * 8) 8)) = true) → post (some (vi (0))) (S nw nx g, 78 + gn, c)))))) :
    SW G (j + 5) mX8_smooth 24 [some (vr (0)), some (vi (((x : Nat) : Int))), some (vi (((z : Nat) : Int)))] [] (S nw nx g, 78 + gn, c) B0 post := by
  refine sw_iload_n (dX8_smooth.at 13 rfl) rfl rfl ?_
  refine sw_aload_n (dX8_smooth.at 14 rfl) rfl rfl ?_
  refine sw_getR (dX8_smooth.at 15 rfl) fp_X8_65 (S_lt 0 (by decide)) (S_0 nw nx g) rfl rfl ?_
  refine sw_getIE (w := ((gN P : Nat) : Int)) (dX8_smooth.at 16 rfl) fp_X8_103 (S_e_lt hnw) (S_e hnw) rfl (EL_N hE) ?_
  refine sw_icmpN_ge z (gN P) (tgt := 55) (dX8_smooth.at 17 rfl) (by decide) hv.1 hv.2.1 (fun q => ?_) (fun q => ?_)
  · replace hv := hv.2.2.1 q
    refine sw_iconst (dX8_smooth.at 28 rfl) ?_
    exact sw_iret (dX8_smooth.at 29 rfl) rfl (Nat.le_refl _) (Nat.le_refl _) hv
  · replace hv := hv.2.2.2 q
    refine sw_aload_n (dX8_smooth.at 18 rfl) rfl rfl ?_
    refine sw_getR (dX8_smooth.at 19 rfl) fp_X8_26 (S_lt 0 (by decide)) (S_0 nw nx g) rfl rfl ?_
    refine sw_iload_n (dX8_smooth.at 20 rfl) rfl rfl ?_
    refine sw_iload_n (dX8_smooth.at 21 rfl) rfl rfl ?_
    refine sw_callV (B' := B0) (As := [vi (((z : Nat) : Int)), vi (((x : Nat) : Int))]) (mc := 0) (ms := 0) (dX8_smooth.at 22 rfl) lk_X8_222 (S_lt 5 (by decide)) (S_5 nw nx g) rfl rfl (Nat.le_of_ble_eq_true rfl) rfl (Nat.le_refl _) (Nat.le_refl _) ?_
    refine c_X4_isCrooked (v := z) (w := x) (j := j + 2) hv.1 hv.2.1 hv.2.2.1 ?_
    replace hv := hv.2.2.2
    refine sw_if_eq (tgt := 49) (dX8_smooth.at 23 rfl) (by decide) (bz_rng _) (fun q => ?_) (fun q => ?_)
    · replace hv := hv.1 (bz_0 q)
      refine sw_iinc (lo' := [some (vr (0)), some (vi (((x : Nat) : Int))), some (vi (((z + 1 : Nat) : Int)))]) (dX8_smooth.at 26 rfl) rfl (by decide) rfl ?_
      refine sw_goto (tgt := 24) (dX8_smooth.at 27 rfl) (by decide) ?_
      exact hv
    · replace hv := hv.2 (bz_n0 q)
      refine sw_iconst (dX8_smooth.at 24 rfl) ?_
      exact sw_iret (dX8_smooth.at 25 rfl) rfl (Nat.le_refl _) (Nat.le_refl _) hv

set_option maxHeartbeats 2000000 in
theorem lp_X8_smooth_24 {G : GG} {j nw nx gn : Nat} {g : Nat → Sh} {c : Nat → Nat → Int} {post : Option AV → AM → Prop} {P : GD} {T : PT} {x : Nat} (hnw : nw = 21 ∨ nw = 35) (hE : EL c nw P) (hV : GV P) (hT : HT P T) (hA : AT P T (gN P) (c 6)) (hx : x < gN P) : ∀ k z : Nat, z + k = gN P → post (some (vi (smF T x k z))) (S nw nx g, 78 + gn, c) → SW G (j + 5) mX8_smooth 24 [some (vr (0)), some (vi (((x : Nat) : Int))), some (vi (((z : Nat) : Int)))] [] (S nw nx g, 78 + gn, c) B0 post := by
  have h60 := GV_N hV
  intro k
  induction k with
  | zero =>
    intro z hz K
    rw [smF] at K
    refine g_X8_smooth_24 hnw hE hV ?_
    refine ⟨?_, ?_, ⟨fun q => ?_, fun q => ⟨?_, ?_, ?_, ⟨fun q => ?_, fun q => ?_⟩⟩⟩⟩
    all_goals first | exact K | omega | (exfalso; omega)
  | succ k ih =>
    intro z hz K
    rw [smF] at K
    refine g_X8_smooth_24 hnw hE hV ?_
    rw [hp_T hA (by omega) hx]
    have b9 := AT_rng hT hA (show z < gN P by omega) hx
    refine ⟨?_, ?_, ⟨fun q => ?_, fun q => ⟨?_, ?_, ?_, ⟨fun q => ?_, fun q => ?_⟩⟩⟩⟩
    all_goals first | omega | (exfalso; omega) | exact b9 | (simp only [decide_eq_true_eq, decide_eq_false_iff_not] at *; first | (rw [if_pos (by assumption)] at K; exact K) | (rw [if_neg (by assumption)] at K; exact ih (z + 1) (by omega) K))

def q_smooth (P : GD) (T : PT) (x : Int) : Int := if 0 ≤ x ∧ x < (gN P : Int) then smF T x.toNat (gN P) 0 else (-2)
set_option maxHeartbeats 2000000 in
set_option maxRecDepth 20000 in
theorem g_X8_smooth_0n {G : GG} {j nw nx gn : Nat} {g : Nat → Sh} {c : Nat → Nat → Int} {post : Option AV → AM → Prop} {x : Nat} {P : GD} {T : PT} (hnw : nw = 21 ∨ nw = 35) (hE : EL c nw P) (hV : GV P) (hT : HT P T) (hR : PR P T c)  (hv : (-2147483648 ≤ ((x : Nat) : Int) ∧ ((x : Nat) : Int) < 2147483648) ∧ ((((decide (0 ≤ ((x : Nat) : Int) ∧ ((x : Nat) : Int) < (gN P : Int))) = true) → (PR P T c) ∧ (∀ c_1 : Nat → Nat → Int, ((∀ a, a ≠ 5 → a ≠ 6 → c_1 a = c a) ∧ c_1 5 1 = 1 ∧ AT P T (gN P) (c_1 6)) → SW G (j + 5) mX8_smooth 24 [some (vr (0)), some (vi (((x : Nat) : Int))), some (vi (0))] [] (S nw nx g, 78 + gn, c_1) B0 post)) ∧ (((decide (0 ≤ ((x : Nat) : Int) ∧ ((x : Nat) : Int) < (gN P : Int))) = false) → post (some (vi ((-2)))) (S nw nx g, 78 + gn, c)))) :
    SW G (j + 5) mX8_smooth 0 [some (vr (0)), some (vi (((x : Nat) : Int))), none] [] (S nw nx g, 78 + gn, c) B0 post := by
  refine sw_aload_n (dX8_smooth.at 0 rfl) rfl rfl ?_
  refine sw_iload_n (dX8_smooth.at 1 rfl) rfl rfl ?_
  refine sw_callV (B' := B0) (As := [vi (((x : Nat) : Int))]) (mc := 0) (ms := 0) (dX8_smooth.at 2 rfl) lk_X8_130 (S_lt 0 (by decide)) (S_0 nw nx g) rfl rfl (Nat.le_of_ble_eq_true rfl) rfl (Nat.le_refl _) (Nat.le_refl _) ?_
  refine c_X8_isElementP (x := ((x : Nat) : Int)) (j := j + 4) hnw hE hV hv.1 ?_
  replace hv := hv.2
  refine sw_if_ne (tgt := 11) (dX8_smooth.at 3 rfl) (by decide) (bz_rng _) (fun q => ?_) (fun q => ?_)
  · replace hv := hv.1 (bz_1 q)
    refine sw_aload_n (dX8_smooth.at 6 rfl) rfl rfl ?_
    refine sw_getR (dX8_smooth.at 7 rfl) fp_X8_26 (S_lt 0 (by decide)) (S_0 nw nx g) rfl rfl ?_
    refine sw_aload_n (dX8_smooth.at 8 rfl) rfl rfl ?_
    refine sw_getR (dX8_smooth.at 9 rfl) fp_X8_65 (S_lt 0 (by decide)) (S_0 nw nx g) rfl rfl ?_
    refine sw_callV (B' := B0) (As := [vr (nw)]) (mc := 0) (ms := 0) (dX8_smooth.at 10 rfl) lk_X8_204 (S_lt 5 (by decide)) (S_5 nw nx g) rfl rfl (Nat.le_of_ble_eq_true rfl) rfl (Nat.le_refl _) (Nat.le_refl _) ?_
    refine c_X4_prepare (e := nw) (j := j + 0) hnw hE hV hT hv.1 (fun c_1 h_1 => ?_)
    replace hv := hv.2 c_1 h_1
    refine sw_iconst (dX8_smooth.at 11 rfl) ?_
    refine sw_istore_n (lo' := [some (vr (0)), some (vi (((x : Nat) : Int))), some (vi (0))]) (dX8_smooth.at 12 rfl) rfl (by decide) rfl ?_
    exact hv
  · replace hv := hv.2 (bz_n1 q)
    refine sw_bipush (dX8_smooth.at 4 rfl) (by decide) ?_
    exact sw_iret (dX8_smooth.at 5 rfl) rfl (Nat.le_refl _) (Nat.le_refl _) hv

set_option maxHeartbeats 2000000 in
set_option maxRecDepth 20000 in
theorem g_X8_smooth_0 {G : GG} {j nw nx gn : Nat} {g : Nat → Sh} {c : Nat → Nat → Int} {post : Option AV → AM → Prop} {x : Int} {P : GD} {T : PT} (hnw : nw = 21 ∨ nw = 35) (hE : EL c nw P) (hV : GV P) (hT : HT P T) (hR : PR P T c)  (hv : (-2147483648 ≤ x ∧ x < 2147483648) ∧ ((((decide (0 ≤ x ∧ x < (gN P : Int))) = true) → (PR P T c) ∧ (∀ c_1 : Nat → Nat → Int, ((∀ a, a ≠ 5 → a ≠ 6 → c_1 a = c a) ∧ c_1 5 1 = 1 ∧ AT P T (gN P) (c_1 6)) → SW G (j + 5) mX8_smooth 24 [some (vr (0)), some (vi (x)), some (vi (0))] [] (S nw nx g, 78 + gn, c_1) B0 post)) ∧ (((decide (0 ≤ x ∧ x < (gN P : Int))) = false) → post (some (vi ((-2)))) (S nw nx g, 78 + gn, c)))) :
    SW G (j + 5) mX8_smooth 0 [some (vr (0)), some (vi (x)), none] [] (S nw nx g, 78 + gn, c) B0 post := by
  refine sw_aload_n (dX8_smooth.at 0 rfl) rfl rfl ?_
  refine sw_iload_n (dX8_smooth.at 1 rfl) rfl rfl ?_
  refine sw_callV (B' := B0) (As := [vi (x)]) (mc := 0) (ms := 0) (dX8_smooth.at 2 rfl) lk_X8_130 (S_lt 0 (by decide)) (S_0 nw nx g) rfl rfl (Nat.le_of_ble_eq_true rfl) rfl (Nat.le_refl _) (Nat.le_refl _) ?_
  refine c_X8_isElementP (x := x) (j := j + 4) hnw hE hV hv.1 ?_
  replace hv := hv.2
  refine sw_if_ne (tgt := 11) (dX8_smooth.at 3 rfl) (by decide) (bz_rng _) (fun q => ?_) (fun q => ?_)
  · replace hv := hv.1 (bz_1 q)
    refine sw_aload_n (dX8_smooth.at 6 rfl) rfl rfl ?_
    refine sw_getR (dX8_smooth.at 7 rfl) fp_X8_26 (S_lt 0 (by decide)) (S_0 nw nx g) rfl rfl ?_
    refine sw_aload_n (dX8_smooth.at 8 rfl) rfl rfl ?_
    refine sw_getR (dX8_smooth.at 9 rfl) fp_X8_65 (S_lt 0 (by decide)) (S_0 nw nx g) rfl rfl ?_
    refine sw_callV (B' := B0) (As := [vr (nw)]) (mc := 0) (ms := 0) (dX8_smooth.at 10 rfl) lk_X8_204 (S_lt 5 (by decide)) (S_5 nw nx g) rfl rfl (Nat.le_of_ble_eq_true rfl) rfl (Nat.le_refl _) (Nat.le_refl _) ?_
    refine c_X4_prepare (e := nw) (j := j + 0) hnw hE hV hT hv.1 (fun c_1 h_1 => ?_)
    replace hv := hv.2 c_1 h_1
    refine sw_iconst (dX8_smooth.at 11 rfl) ?_
    refine sw_istore_n (lo' := [some (vr (0)), some (vi (x)), some (vi (0))]) (dX8_smooth.at 12 rfl) rfl (by decide) rfl ?_
    exact hv
  · replace hv := hv.2 (bz_n1 q)
    refine sw_bipush (dX8_smooth.at 4 rfl) (by decide) ?_
    exact sw_iret (dX8_smooth.at 5 rfl) rfl (Nat.le_refl _) (Nat.le_refl _) hv

set_option maxHeartbeats 4000000 in
theorem c_X8_smooth {G : GG} {j nw nx gn : Nat} {g : Nat → Sh} {c : Nat → Nat → Int} {post : Option AV → AM → Prop} {P : GD} {T : PT} {x : Int} (hnw : nw = 21 ∨ nw = 35) (hE : EL c nw P) (hV : GV P) (hT : HT P T) (hR : PR P T c) (p1 : -2147483648 ≤ x ∧ x < 2147483648) (K : ∀ c2 : Nat → Nat → Int, ((∀ a, a ≠ 5 → a ≠ 6 → c2 a = c a) ∧ PR P T c2) → post (some (vi (q_smooth P T x))) (S nw nx g, 78 + gn, c2)) : SM G (j + 6) mX8_smooth [vr (0), vi (x)] (S nw nx g, 78 + gn, c) 0 0 post := by
  refine sm_of wX8_smooth rfl (Nat.le_of_ble_eq_true rfl) ?_
  have hN60 := GV_N hV
  have hR5 := GV_R hV
  by_cases hv : 0 ≤ x ∧ x < (gN P : Int)
  · obtain ⟨x, rfl⟩ : ∃ n : Nat, x = (n : Int) := ⟨x.toNat, by omega⟩
    have e : q_smooth P T ((x : Nat) : Int) = smF T x (gN P) 0 := by
      rw [q_smooth, if_pos hv]
      simp only [Int.toNat_natCast]
    rw [e] at K
    refine g_X8_smooth_0n hnw hE hV hT hR ?_
    refine ⟨?_, ⟨fun q => ⟨?_, fun c_1 h_1 => ?_⟩, fun q => ?_⟩⟩
    all_goals first | omega | assumption | (exfalso; simp only [decide_eq_true_eq, decide_eq_false_iff_not] at *; omega) | (have K2 := K c_1 ⟨h_1.1, Or.inr h_1.2⟩; exact lp_X8_smooth_24 hnw (EL_same hE (fun q hq => h_1.1 _ (by omega) (by omega))) hV hT h_1.2.2 (by omega) (gN P) 0 (by omega) K2)
  · have e : q_smooth P T x = (-2) := by rw [q_smooth, if_neg hv]
    rw [e] at K
    refine g_X8_smooth_0 hnw hE hV hT hR ?_
    have K := K c ⟨fun _ _ _ => rfl, hR⟩
    refine ⟨?_, ⟨fun q => ⟨?_, fun c_1 h_1 => ?_⟩, fun q => ?_⟩⟩
    all_goals first | exact K | omega | assumption | (exfalso; simp only [decide_eq_true_eq, decide_eq_false_iff_not] at *; omega)

