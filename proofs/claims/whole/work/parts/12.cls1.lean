theorem max_if (a b : Nat) : (if (a : Int) < (b : Int) then (b : Int) else (a : Int)) = ((max a b : Nat) : Int) := by
  by_cases h : a < b
  · rw [if_pos (by omega)]; congr 1; omega
  · rw [if_neg (by omega)]; congr 1; omega
theorem min_if (a b : Nat) : (if (b : Int) < (a : Int) then (b : Int) else (a : Int)) = ((min a b : Nat) : Int) := by
  by_cases h : b < a
  · rw [if_pos (by omega)]; congr 1; omega
  · rw [if_neg (by omega)]; congr 1; omega
theorem bit_of (s i : Nat) : ((s / 2 ^ i) &&& 1 = 0) ↔ s.testBit i = false := by
  rw [Nat.testBit_eq_decide_div_mod_eq, Nat.and_one_is_mod]
  simp
set_option maxHeartbeats 2000000 in
set_option maxRecDepth 20000 in
theorem g_X8_hasBit_0 {G : GG} {j nw nx gn : Nat} {g : Nat → Sh} {c : Nat → Nat → Int} {post : Option AV → AM → Prop} {s : Nat} {i : Nat}  (hv : (s < 9223372036854775808) ∧ (i < 64) ∧ (((s / 2 ^ i) &&& 1 < 9223372036854775808) ∧ ((((s / 2 ^ i) &&& 1 = 0) → post (some (vi (0))) (S nw nx g, 78 + gn, c)) ∧ ((¬ ((s / 2 ^ i) &&& 1 = 0)) → post (some (vi (1))) (S nw nx g, 78 + gn, c))))) :
    SW G (j + 0) mX8_hasBit 0 [some (vl (((s : Nat) : Int))), none, some (vi (((i : Nat) : Int)))] [] (S nw nx g, 78 + gn, c) B0 post := by
  refine sw_lload_n (dX8_hasBit.at 0 rfl) rfl rfl ?_
  refine sw_iload_n (dX8_hasBit.at 1 rfl) rfl rfl ?_
  refine sw_lshrN s i (dX8_hasBit.at 2 rfl) hv.1 hv.2.1 ?_
  replace hv := hv.2.2
  refine sw_lconst (z := 1) (dX8_hasBit.at 3 rfl) (by decide) ?_
  refine sw_landN (s / 2 ^ i) 1 (dX8_hasBit.at 4 rfl) ?_
  refine sw_lconst (z := 0) (dX8_hasBit.at 5 rfl) (by decide) ?_
  refine sw_lcmpN_eq ((s / 2 ^ i) &&& 1) 0 (tgt := 14) (dX8_hasBit.at 6 rfl) (dX8_hasBit.at 7 rfl) (by decide) hv.1 (by decide) (fun q => ?_) (fun q => ?_)
  · replace hv := hv.2.1 q
    refine sw_iconst (dX8_hasBit.at 10 rfl) ?_
    exact sw_zret (dX8_hasBit.at 11 rfl) rfl (by decide) (Nat.le_refl _) (Nat.le_refl _) hv
  · replace hv := hv.2.2 q
    refine sw_iconst (dX8_hasBit.at 8 rfl) ?_
    refine sw_goto (tgt := 15) (dX8_hasBit.at 9 rfl) (by decide) ?_
    exact sw_zret (dX8_hasBit.at 11 rfl) rfl (by decide) (Nat.le_refl _) (Nat.le_refl _) hv

set_option maxHeartbeats 2000000 in
theorem c_X8_hasBit {G : GG} {j nw nx gn : Nat} {g : Nat → Sh} {c : Nat → Nat → Int} {post : Option AV → AM → Prop} {s : Nat} {i : Nat} (p1 : s < 9223372036854775808) (p2 : i < 64) (K : post (some (vi (bz (s.testBit i)))) (S nw nx g, 78 + gn, c)) : SM G (j + 1) mX8_hasBit [vl (((s : Nat) : Int)), vi (((i : Nat) : Int))] (S nw nx g, 78 + gn, c) 0 0 post := by
  refine sm_of wX8_hasBit rfl (Nat.le_of_ble_eq_true rfl) ?_
  refine g_X8_hasBit_0  ?_
  have e : (s / 2 ^ i &&& 1) < 9223372036854775808 := Nat.lt_of_le_of_lt Nat.and_le_right (by decide)
  refine ⟨p1, p2, e, fun h => ?_, fun h => ?_⟩
  · rw [(bit_of s i).mp h] at K; exact K
  · cases hb : s.testBit i with
    | false => exact absurd ((bit_of s i).mpr hb) h
    | true => rw [hb] at K; exact K

set_option maxHeartbeats 2000000 in
set_option maxRecDepth 20000 in
theorem g_X8_isSide_0 {G : GG} {j nw nx gn : Nat} {g : Nat → Sh} {c : Nat → Nat → Int} {post : Option AV → AM → Prop} {x : Int}  (hv : (-2147483648 ≤ x ∧ x < 2147483648) ∧ (((x = 0) → post (some (vi (1))) (S nw nx g, 78 + gn, c)) ∧ ((¬ (x = 0)) → (-2147483648 ≤ x ∧ x < 2147483648) ∧ (((x ≠ 1) → post (some (vi (0))) (S nw nx g, 78 + gn, c)) ∧ ((x = 1) → post (some (vi (1))) (S nw nx g, 78 + gn, c)))))) :
    SW G (j + 0) mX8_isSide 0 [some (vi (x))] [] (S nw nx g, 78 + gn, c) B0 post := by
  refine sw_iload_n (dX8_isSide.at 0 rfl) rfl rfl ?_
  refine sw_if_eq (tgt := 9) (dX8_isSide.at 1 rfl) (by decide) hv.1 (fun q => ?_) (fun q => ?_)
  · replace hv := hv.2.1 q
    refine sw_iconst (dX8_isSide.at 5 rfl) ?_
    refine sw_goto (tgt := 14) (dX8_isSide.at 6 rfl) (by decide) ?_
    exact sw_zret (dX8_isSide.at 8 rfl) rfl (by decide) (Nat.le_refl _) (Nat.le_refl _) hv
  · replace hv := hv.2.2 q
    refine sw_iload_n (dX8_isSide.at 2 rfl) rfl rfl ?_
    refine sw_iconst (dX8_isSide.at 3 rfl) ?_
    refine sw_icmp_ne (tgt := 13) (dX8_isSide.at 4 rfl) (by decide) hv.1 (by decide) (fun q => ?_) (fun q => ?_)
    · replace hv := hv.2.1 q
      refine sw_iconst (dX8_isSide.at 7 rfl) ?_
      exact sw_zret (dX8_isSide.at 8 rfl) rfl (by decide) (Nat.le_refl _) (Nat.le_refl _) hv
    · replace hv := hv.2.2 q
      refine sw_iconst (dX8_isSide.at 5 rfl) ?_
      refine sw_goto (tgt := 14) (dX8_isSide.at 6 rfl) (by decide) ?_
      exact sw_zret (dX8_isSide.at 8 rfl) rfl (by decide) (Nat.le_refl _) (Nat.le_refl _) hv

set_option maxHeartbeats 2000000 in
theorem c_X8_isSide {G : GG} {j nw nx gn : Nat} {g : Nat → Sh} {c : Nat → Nat → Int} {post : Option AV → AM → Prop} {x : Int} (p1 : -2147483648 ≤ x ∧ x < 2147483648) (K : post (some (vi (bz (decide (x = 0 ∨ x = 1))))) (S nw nx g, 78 + gn, c)) : SM G (j + 1) mX8_isSide [vi (x)] (S nw nx g, 78 + gn, c) 0 0 post := by
  refine sm_of wX8_isSide rfl (Nat.le_of_ble_eq_true rfl) ?_
  refine g_X8_isSide_0  ?_
  have K1 : ∀ v : Int, v = bz (decide (x = 0 ∨ x = 1)) → post (some (vi v)) (S nw nx g, 78 + gn, c) := fun v h => h ▸ K
  refine ⟨?_, ⟨fun q => ?_, fun q => ⟨?_, ⟨fun q => ?_, fun q => ?_⟩⟩⟩⟩
  all_goals first | assumption | omega | (refine K1 _ ?_; simp only [bz, decide_eq_true_eq]; split <;> omega)

set_option maxHeartbeats 2000000 in
set_option maxRecDepth 20000 in
theorem g_X8_isKind_0 {G : GG} {j nw nx gn : Nat} {g : Nat → Sh} {c : Nat → Nat → Int} {post : Option AV → AM → Prop} {x : Int}  (hv : (-2147483648 ≤ x ∧ x < 2147483648) ∧ (((x < 0) → post (some (vi (0))) (S nw nx g, 78 + gn, c)) ∧ ((¬ (x < 0)) → (-2147483648 ≤ x ∧ x < 2147483648) ∧ (((3 ≤ x) → post (some (vi (0))) (S nw nx g, 78 + gn, c)) ∧ ((¬ (3 ≤ x)) → post (some (vi (1))) (S nw nx g, 78 + gn, c)))))) :
    SW G (j + 0) mX8_isKind 0 [some (vi (x))] [] (S nw nx g, 78 + gn, c) B0 post := by
  refine sw_iload_n (dX8_isKind.at 0 rfl) rfl rfl ?_
  refine sw_if_lt (tgt := 13) (dX8_isKind.at 1 rfl) (by decide) hv.1 (fun q => ?_) (fun q => ?_)
  · replace hv := hv.2.1 q
    refine sw_iconst (dX8_isKind.at 7 rfl) ?_
    exact sw_zret (dX8_isKind.at 8 rfl) rfl (by decide) (Nat.le_refl _) (Nat.le_refl _) hv
  · replace hv := hv.2.2 q
    refine sw_iload_n (dX8_isKind.at 2 rfl) rfl rfl ?_
    refine sw_iconst (dX8_isKind.at 3 rfl) ?_
    refine sw_icmp_ge (tgt := 13) (dX8_isKind.at 4 rfl) (by decide) hv.1 (by decide) (fun q => ?_) (fun q => ?_)
    · replace hv := hv.2.1 q
      refine sw_iconst (dX8_isKind.at 7 rfl) ?_
      exact sw_zret (dX8_isKind.at 8 rfl) rfl (by decide) (Nat.le_refl _) (Nat.le_refl _) hv
    · replace hv := hv.2.2 q
      refine sw_iconst (dX8_isKind.at 5 rfl) ?_
      refine sw_goto (tgt := 14) (dX8_isKind.at 6 rfl) (by decide) ?_
      exact sw_zret (dX8_isKind.at 8 rfl) rfl (by decide) (Nat.le_refl _) (Nat.le_refl _) hv

set_option maxHeartbeats 2000000 in
theorem c_X8_isKind {G : GG} {j nw nx gn : Nat} {g : Nat → Sh} {c : Nat → Nat → Int} {post : Option AV → AM → Prop} {x : Int} (p1 : -2147483648 ≤ x ∧ x < 2147483648) (K : post (some (vi (bz (decide (0 ≤ x ∧ x < 3))))) (S nw nx g, 78 + gn, c)) : SM G (j + 1) mX8_isKind [vi (x)] (S nw nx g, 78 + gn, c) 0 0 post := by
  refine sm_of wX8_isKind rfl (Nat.le_of_ble_eq_true rfl) ?_
  refine g_X8_isKind_0  ?_
  have K1 : ∀ v : Int, v = bz (decide (0 ≤ x ∧ x < 3)) → post (some (vi v)) (S nw nx g, 78 + gn, c) := fun v h => h ▸ K
  refine ⟨?_, ⟨fun q => ?_, fun q => ⟨?_, ⟨fun q => ?_, fun q => ?_⟩⟩⟩⟩
  all_goals first | assumption | omega | (refine K1 _ ?_; simp only [bz, decide_eq_true_eq]; split <;> omega)

set_option maxHeartbeats 2000000 in
set_option maxRecDepth 20000 in
theorem g_X8_isElement_0 {G : GG} {j nw nx gn : Nat} {g : Nat → Sh} {c : Nat → Nat → Int} {post : Option AV → AM → Prop} {x : Int} (hnw : nw = 21 ∨ nw = 35)  (hv : (-2147483648 ≤ x ∧ x < 2147483648) ∧ (((x < 0) → post (some (vi (0))) (S nw nx g, 78 + gn, c)) ∧ ((¬ (x < 0)) → (-2147483648 ≤ x ∧ x < 2147483648) ∧ (-2147483648 ≤ c nw 14 ∧ c nw 14 < 2147483648) ∧ (((c nw 14 ≤ x) → post (some (vi (0))) (S nw nx g, 78 + gn, c)) ∧ ((¬ (c nw 14 ≤ x)) → post (some (vi (1))) (S nw nx g, 78 + gn, c)))))) :
    SW G (j + 0) mX8_isElement 0 [some (vr (0)), some (vi (x))] [] (S nw nx g, 78 + gn, c) B0 post := by
  refine sw_iload_n (dX8_isElement.at 0 rfl) rfl rfl ?_
  refine sw_if_lt (tgt := 19) (dX8_isElement.at 1 rfl) (by decide) hv.1 (fun q => ?_) (fun q => ?_)
  · replace hv := hv.2.1 q
    refine sw_iconst (dX8_isElement.at 9 rfl) ?_
    exact sw_zret (dX8_isElement.at 10 rfl) rfl (by decide) (Nat.le_refl _) (Nat.le_refl _) hv
  · replace hv := hv.2.2 q
    refine sw_iload_n (dX8_isElement.at 2 rfl) rfl rfl ?_
    refine sw_aload_n (dX8_isElement.at 3 rfl) rfl rfl ?_
    refine sw_getR (dX8_isElement.at 4 rfl) fp_X8_65 (S_lt 0 (by decide)) (S_0 nw nx g) rfl rfl ?_
    refine sw_getI (dX8_isElement.at 5 rfl) fp_X8_103 (S_e_lt hnw) (S_e hnw) rfl ?_
    refine sw_icmp_ge (tgt := 19) (dX8_isElement.at 6 rfl) (by decide) hv.1 hv.2.1 (fun q => ?_) (fun q => ?_)
    · replace hv := hv.2.2.1 q
      refine sw_iconst (dX8_isElement.at 9 rfl) ?_
      exact sw_zret (dX8_isElement.at 10 rfl) rfl (by decide) (Nat.le_refl _) (Nat.le_refl _) hv
    · replace hv := hv.2.2.2 q
      refine sw_iconst (dX8_isElement.at 7 rfl) ?_
      refine sw_goto (tgt := 20) (dX8_isElement.at 8 rfl) (by decide) ?_
      exact sw_zret (dX8_isElement.at 10 rfl) rfl (by decide) (Nat.le_refl _) (Nat.le_refl _) hv

set_option maxHeartbeats 2000000 in
theorem c_X8_isElement {G : GG} {j nw nx gn : Nat} {g : Nat → Sh} {c : Nat → Nat → Int} {post : Option AV → AM → Prop} {N : Nat} {x : Int} (hnw : nw = 21 ∨ nw = 35) (p1 : -2147483648 ≤ x ∧ x < 2147483648) (p2 : c nw 14 = ((N : Nat) : Int)) (p3 : N ≤ 60) (K : post (some (vi (bz (decide (0 ≤ x ∧ x < ((N : Nat) : Int)))))) (S nw nx g, 78 + gn, c)) : SM G (j + 1) mX8_isElement [vr (0), vi (x)] (S nw nx g, 78 + gn, c) 0 0 post := by
  refine sm_of wX8_isElement rfl (Nat.le_of_ble_eq_true rfl) ?_
  refine g_X8_isElement_0 hnw ?_
  have K1 : ∀ v : Int, v = bz (decide (0 ≤ x ∧ x < ((N : Nat) : Int))) → post (some (vi v)) (S nw nx g, 78 + gn, c) := fun v h => h ▸ K
  refine ⟨?_, ⟨fun q => ?_, fun q => ⟨?_, ?_, ⟨fun q => ?_, fun q => ?_⟩⟩⟩⟩
  all_goals first | assumption | omega | (refine K1 _ ?_; simp only [bz, decide_eq_true_eq]; split <;> omega)

set_option maxHeartbeats 2000000 in
set_option maxRecDepth 20000 in
theorem g_X1_by_0 {G : GG} {j nw nx gn : Nat} {g : Nat → Sh} {c : Nat → Nat → Int} {post : Option AV → AM → Prop} {e : Nat} {x : Nat} {s : Nat} (he : e = 21 ∨ e = 35)  (hv : ((x * 5) + s < 300) ∧ (post (some (vi (c (e + 5) ((x * 5) + s)))) (S nw nx g, 78 + gn, c))) :
    SW G (j + 0) mX1_by 0 [some (vr (e)), some (vi (((x : Nat) : Int))), some (vi (((s : Nat) : Int)))] [] (S nw nx g, 78 + gn, c) B0 post := by
  refine sw_aload_n (dX1_by.at 0 rfl) rfl rfl ?_
  refine sw_getR (dX1_by.at 1 rfl) fp_X1_24 (S_e_lt he) (S_e he) rfl rfl ?_
  refine sw_iload_n (dX1_by.at 2 rfl) rfl rfl ?_
  refine sw_iconst (dX1_by.at 3 rfl) ?_
  refine sw_imul (dX1_by.at 4 rfl) ?_
  refine sw_topI (y := ((x * 5 : Nat) : Int)) (by first | rfl | (congr 1)) ?_
  refine sw_iload_n (dX1_by.at 5 rfl) rfl rfl ?_
  refine sw_iadd (dX1_by.at 6 rfl) ?_
  refine sw_topI (y := (((x * 5) + s : Nat) : Int)) (by first | rfl | (congr 1)) ?_
  refine sw_ialdN ((x * 5) + s) (dX1_by.at 7 rfl) (S_ek_lt he (by decide)) (S_e_5 he) (by decide) hv.1 rfl ?_
  replace hv := hv.2
  exact sw_iret (dX1_by.at 8 rfl) rfl (Nat.le_refl _) (Nat.le_refl _) hv

set_option maxHeartbeats 2000000 in
theorem c_X1_by {G : GG} {j nw nx gn : Nat} {g : Nat → Sh} {c : Nat → Nat → Int} {post : Option AV → AM → Prop} {e : Nat} {x : Nat} {s : Nat} (he : e = 21 ∨ e = 35) (p1 : x * 5 + s < 300) (K : post (some (vi (c (e + 5) (x * 5 + s)))) (S nw nx g, 78 + gn, c)) : SM G (j + 1) mX1_by [vr (e), vi (((x : Nat) : Int)), vi (((s : Nat) : Int))] (S nw nx g, 78 + gn, c) 0 0 post := by
  refine sm_of wX1_by rfl (Nat.le_of_ble_eq_true rfl) ?_
  refine g_X1_by_0 he ?_
  refine ⟨?_, ?_⟩
  all_goals first | exact K | assumption | omega

set_option maxHeartbeats 2000000 in
set_option maxRecDepth 20000 in
theorem g_X1_mul_0 {G : GG} {j nw nx gn : Nat} {g : Nat → Sh} {c : Nat → Nat → Int} {post : Option AV → AM → Prop} {e : Nat} {x : Nat} {y : Nat} (he : e = 21 ∨ e = 35)  (hv : ((x * 60) + y < 3600) ∧ (post (some (vi (c (e + 6) ((x * 60) + y)))) (S nw nx g, 78 + gn, c))) :
    SW G (j + 0) mX1_mul 0 [some (vr (e)), some (vi (((x : Nat) : Int))), some (vi (((y : Nat) : Int)))] [] (S nw nx g, 78 + gn, c) B0 post := by
  refine sw_aload_n (dX1_mul.at 0 rfl) rfl rfl ?_
  refine sw_getR (dX1_mul.at 1 rfl) fp_X1_27 (S_e_lt he) (S_e he) rfl rfl ?_
  refine sw_iload_n (dX1_mul.at 2 rfl) rfl rfl ?_
  refine sw_bipush (dX1_mul.at 3 rfl) (by decide) ?_
  refine sw_imul (dX1_mul.at 4 rfl) ?_
  refine sw_topI (y := ((x * 60 : Nat) : Int)) (by first | rfl | (congr 1)) ?_
  refine sw_iload_n (dX1_mul.at 5 rfl) rfl rfl ?_
  refine sw_iadd (dX1_mul.at 6 rfl) ?_
  refine sw_topI (y := (((x * 60) + y : Nat) : Int)) (by first | rfl | (congr 1)) ?_
  refine sw_ialdN ((x * 60) + y) (dX1_mul.at 7 rfl) (S_ek_lt he (by decide)) (S_e_6 he) (by decide) hv.1 rfl ?_
  replace hv := hv.2
  exact sw_iret (dX1_mul.at 8 rfl) rfl (Nat.le_refl _) (Nat.le_refl _) hv

set_option maxHeartbeats 2000000 in
theorem c_X1_mul {G : GG} {j nw nx gn : Nat} {g : Nat → Sh} {c : Nat → Nat → Int} {post : Option AV → AM → Prop} {e : Nat} {x : Nat} {y : Nat} (he : e = 21 ∨ e = 35) (p1 : x * 60 + y < 3600) (K : post (some (vi (c (e + 6) (x * 60 + y)))) (S nw nx g, 78 + gn, c)) : SM G (j + 1) mX1_mul [vr (e), vi (((x : Nat) : Int)), vi (((y : Nat) : Int))] (S nw nx g, 78 + gn, c) 0 0 post := by
  refine sm_of wX1_mul rfl (Nat.le_of_ble_eq_true rfl) ?_
  refine g_X1_mul_0 he ?_
  refine ⟨?_, ?_⟩
  all_goals first | exact K | assumption | omega

