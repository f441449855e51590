def rAtF (F : Nat → Int) (m v w : Nat) (k : Int) : Int := if 0 ≤ k ∧ k < (m : Int) then F ((60 * v + w) * m + k.toNat) else 0
def hRr (P : GD) : Prop := ∀ v w, v < gN P → w < gN P →
  (∀ k, 14 ≤ k → k < 16 → rF P v w k = 0) ∧
  (∀ k, k < 14 → v = w → rF P v w k = if k = 0 then 1 else 0) ∧
  (∀ k, k < 14 → v ≠ w → (gD P w).testBit v = false → rF P v w k = 0) ∧
  (∀ k, k < 14 → v ≠ w → (gD P w).testBit v = true → rF P v w k = if (gE P v).testBit (lsb (gE P w)) then rF P (gS P v (lsb (gE P w))) (gS P w (lsb (gE P w))) k else (if k = 0 then 0 else rF P (gS P v (lsb (gE P w))) (gS P w (lsb (gE P w))) (k - 1) + rF P v (gS P w (lsb (gE P w))) (k - 1)) - rF P v (gS P w (lsb (gE P w))) k)
set_option maxHeartbeats 2000000 in
set_option maxRecDepth 20000 in
theorem g_X9_rAt_n {G : GG} {j nw nx gn : Nat} {g : Nat → Sh} {c : Nat → Nat → Int} {post : Option AV → AM → Prop} {v : Nat} {w : Nat} {k : Nat}  (hv : (k < 2147483648) ∧ ((-9223372036854775808 ≤ (((k : Nat) : Int) : Int) ∧ (((k : Nat) : Int) : Int) < 9223372036854775808) ∧ (-9223372036854775808 ≤ (0 : Int) ∧ (0 : Int) < 9223372036854775808) ∧ (-9223372036854775808 ≤ (13 : Int) ∧ (13 : Int) < 9223372036854775808) ∧ ((((decide (0 ≤ ((k : Nat) : Int) ∧ ((k : Nat) : Int) ≤ 13)) = false) → post (some (vi (0))) (S nw nx g, 78 + gn, c)) ∧ (((decide (0 ≤ ((k : Nat) : Int) ∧ ((k : Nat) : Int) ≤ 13)) = true) → ((((60 * v) + w) * 14) + k < 50400) ∧ (post (some (vi (c 65 ((((60 * v) + w) * 14) + k)))) (S nw nx g, 78 + gn, c)))))) :
    SW G (j + 1) mX9_rAt 0 [some (vr (49)), some (vi (((v : Nat) : Int))), some (vi (((w : Nat) : Int))), some (vi (((k : Nat) : Int)))] [] (S nw nx g, 78 + gn, c) B0 post := by
  refine sw_iload_n (dX9_rAt.at 0 rfl) rfl rfl ?_
  refine sw_i2l (dX9_rAt.at 1 rfl) (nrng hv.1) ?_
  replace hv := hv.2
  refine sw_lconst (z := 0) (dX9_rAt.at 2 rfl) (by decide) ?_
  refine sw_ldc2 (z := 13) (dX9_rAt.at 3 rfl) kc_X9_284 (by decide) ?_
  refine sw_callS (post' := post) (B' := B0) (As := [vl (((k : Nat) : Int)), vl (0), vl (13)]) (mc := 0) (ms := 0) (dX9_rAt.at 4 rfl) lk_X9_104 rfl rfl (Nat.le_of_ble_eq_true rfl) rfl (Nat.le_refl _) (Nat.le_refl _) ?_
  refine c_X9_in (u := ((k : Nat) : Int)) (lo := 0) (hi := 13) (j := j + 0) hv.1 hv.2.1 hv.2.2.1 ?_
  replace hv := hv.2.2.2
  refine sw_if_eq (tgt := 31) (dX9_rAt.at 5 rfl) (by decide) (bz_rng _) (fun q => ?_) (fun q => ?_)
  · replace hv := hv.1 (bz_0 q)
    refine sw_iconst (dX9_rAt.at 19 rfl) ?_
    exact sw_iret (dX9_rAt.at 20 rfl) rfl (Nat.le_refl _) (Nat.le_refl _) hv
  · replace hv := hv.2 (bz_n0 q)
    refine sw_aload_n (dX9_rAt.at 6 rfl) rfl rfl ?_
    refine sw_getR (dX9_rAt.at 7 rfl) fp_X9_61 (S_lt 49 (by decide)) (S_49 nw nx g) rfl rfl ?_
    refine sw_bipush (dX9_rAt.at 8 rfl) (by decide) ?_
    refine sw_iload_n (dX9_rAt.at 9 rfl) rfl rfl ?_
    refine sw_imul (dX9_rAt.at 10 rfl) ?_
    refine sw_topI (y := ((60 * v : Nat) : Int)) (by first | rfl | (congr 1)) ?_
    refine sw_iload_n (dX9_rAt.at 11 rfl) rfl rfl ?_
    refine sw_iadd (dX9_rAt.at 12 rfl) ?_
    refine sw_topI (y := (((60 * v) + w : Nat) : Int)) (by first | rfl | (congr 1)) ?_
    refine sw_bipush (dX9_rAt.at 13 rfl) (by decide) ?_
    refine sw_imul (dX9_rAt.at 14 rfl) ?_
    refine sw_topI (y := ((((60 * v) + w) * 14 : Nat) : Int)) (by first | rfl | (congr 1)) ?_
    refine sw_iload_n (dX9_rAt.at 15 rfl) rfl rfl ?_
    refine sw_iadd (dX9_rAt.at 16 rfl) ?_
    refine sw_topI (y := (((((60 * v) + w) * 14) + k : Nat) : Int)) (by first | rfl | (congr 1)) ?_
    refine sw_ialdN ((((60 * v) + w) * 14) + k) (dX9_rAt.at 17 rfl) (S_lt 65 (by decide)) (S_65 nw nx g) (by decide) hv.1 rfl ?_
    replace hv := hv.2
    refine sw_goto (tgt := 32) (dX9_rAt.at 18 rfl) (by decide) ?_
    exact sw_iret (dX9_rAt.at 20 rfl) rfl (Nat.le_refl _) (Nat.le_refl _) hv

set_option maxHeartbeats 2000000 in
set_option maxRecDepth 20000 in
theorem g_X9_rAt_i {G : GG} {j nw nx gn : Nat} {g : Nat → Sh} {c : Nat → Nat → Int} {post : Option AV → AM → Prop} {v : Nat} {w : Nat} {k : Int}  (hv : (-2147483648 ≤ k ∧ k < 2147483648) ∧ ((-9223372036854775808 ≤ (k : Int) ∧ (k : Int) < 9223372036854775808) ∧ (-9223372036854775808 ≤ (0 : Int) ∧ (0 : Int) < 9223372036854775808) ∧ (-9223372036854775808 ≤ (13 : Int) ∧ (13 : Int) < 9223372036854775808) ∧ ((((decide (0 ≤ k ∧ k ≤ 13)) = false) → post (some (vi (0))) (S nw nx g, 78 + gn, c)) ∧ (((decide (0 ≤ k ∧ k ≤ 13)) = true) → SW G (j + 1) mX9_rAt 27 [some (vr (49)), some (vi (((v : Nat) : Int))), some (vi (((w : Nat) : Int))), some (vi (k))] [vi (((((60 * v) + w) * 14 : Nat) : Int) + k), vr (65)] (S nw nx g, 78 + gn, c) B0 post)))) :
    SW G (j + 1) mX9_rAt 0 [some (vr (49)), some (vi (((v : Nat) : Int))), some (vi (((w : Nat) : Int))), some (vi (k))] [] (S nw nx g, 78 + gn, c) B0 post := by
  refine sw_iload_n (dX9_rAt.at 0 rfl) rfl rfl ?_
  refine sw_i2l (dX9_rAt.at 1 rfl) hv.1 ?_
  replace hv := hv.2
  refine sw_lconst (z := 0) (dX9_rAt.at 2 rfl) (by decide) ?_
  refine sw_ldc2 (z := 13) (dX9_rAt.at 3 rfl) kc_X9_284 (by decide) ?_
  refine sw_callS (post' := post) (B' := B0) (As := [vl (k), vl (0), vl (13)]) (mc := 0) (ms := 0) (dX9_rAt.at 4 rfl) lk_X9_104 rfl rfl (Nat.le_of_ble_eq_true rfl) rfl (Nat.le_refl _) (Nat.le_refl _) ?_
  refine c_X9_in (u := k) (lo := 0) (hi := 13) (j := j + 0) hv.1 hv.2.1 hv.2.2.1 ?_
  replace hv := hv.2.2.2
  refine sw_if_eq (tgt := 31) (dX9_rAt.at 5 rfl) (by decide) (bz_rng _) (fun q => ?_) (fun q => ?_)
  · replace hv := hv.1 (bz_0 q)
    refine sw_iconst (dX9_rAt.at 19 rfl) ?_
    exact sw_iret (dX9_rAt.at 20 rfl) rfl (Nat.le_refl _) (Nat.le_refl _) hv
  · replace hv := hv.2 (bz_n0 q)
    refine sw_aload_n (dX9_rAt.at 6 rfl) rfl rfl ?_
    refine sw_getR (dX9_rAt.at 7 rfl) fp_X9_61 (S_lt 49 (by decide)) (S_49 nw nx g) rfl rfl ?_
    refine sw_bipush (dX9_rAt.at 8 rfl) (by decide) ?_
    refine sw_iload_n (dX9_rAt.at 9 rfl) rfl rfl ?_
    refine sw_imul (dX9_rAt.at 10 rfl) ?_
    refine sw_topI (y := ((60 * v : Nat) : Int)) (by first | rfl | (congr 1)) ?_
    refine sw_iload_n (dX9_rAt.at 11 rfl) rfl rfl ?_
    refine sw_iadd (dX9_rAt.at 12 rfl) ?_
    refine sw_topI (y := (((60 * v) + w : Nat) : Int)) (by first | rfl | (congr 1)) ?_
    refine sw_bipush (dX9_rAt.at 13 rfl) (by decide) ?_
    refine sw_imul (dX9_rAt.at 14 rfl) ?_
    refine sw_topI (y := ((((60 * v) + w) * 14 : Nat) : Int)) (by first | rfl | (congr 1)) ?_
    refine sw_iload_n (dX9_rAt.at 15 rfl) rfl rfl ?_
    refine sw_iadd (dX9_rAt.at 16 rfl) ?_
    exact hv

set_option maxHeartbeats 2000000 in
theorem c_X9_rAt {G : GG} {j nw nx gn : Nat} {g : Nat → Sh} {c : Nat → Nat → Int} {post : Option AV → AM → Prop} {v w : Nat} {k : Int} (p1 : v < 60) (p2 : w < 60) (p3 : -2147483648 ≤ k ∧ k < 2147483648) (K : post (some (vi (rAtF (c 65) 14 v w k))) (S nw nx g, 78 + gn, c)) : SM G (j + 2) mX9_rAt [vr 49, vi ((v : Nat) : Int), vi ((w : Nat) : Int), vi k] (S nw nx g, 78 + gn, c) 0 0 post := by
  refine sm_of wX9_rAt rfl (Nat.le_of_ble_eq_true rfl) ?_
  by_cases h0 : 0 ≤ k
  · obtain ⟨k, rfl⟩ : ∃ n : Nat, k = (n : Int) := ⟨k.toNat, by omega⟩
    refine g_X9_rAt_n ?_
    rw [rAtF] at K
    refine ⟨?_, ⟨?_, ?_, ?_, ⟨fun q => ?_, fun q => ⟨?_, ?_⟩⟩⟩⟩
    all_goals (try simp only [decide_eq_true_eq, decide_eq_false_iff_not] at *)
    all_goals first | omega | (rw [if_pos (by omega), Int.toNat_natCast] at K; exact K) | (rw [if_neg (by omega)] at K; exact K)
  · refine g_X9_rAt_i ?_
    rw [rAtF, if_neg (by omega)] at K
    refine ⟨?_, ⟨?_, ?_, ?_, ⟨fun q => ?_, fun q => ?_⟩⟩⟩
    all_goals (try simp only [decide_eq_true_eq, decide_eq_false_iff_not] at *)
    all_goals first | omega | exact K | (exfalso; omega)

set_option maxHeartbeats 2000000 in
set_option maxRecDepth 20000 in
theorem g_X9_pAt_n {G : GG} {j nw nx gn : Nat} {g : Nat → Sh} {c : Nat → Nat → Int} {post : Option AV → AM → Prop} {v : Nat} {w : Nat} {k : Nat}  (hv : (k < 2147483648) ∧ ((-9223372036854775808 ≤ (((k : Nat) : Int) : Int) ∧ (((k : Nat) : Int) : Int) < 9223372036854775808) ∧ (-9223372036854775808 ≤ (0 : Int) ∧ (0 : Int) < 9223372036854775808) ∧ (-9223372036854775808 ≤ (6 : Int) ∧ (6 : Int) < 9223372036854775808) ∧ ((((decide (0 ≤ ((k : Nat) : Int) ∧ ((k : Nat) : Int) ≤ 6)) = false) → post (some (vi (0))) (S nw nx g, 78 + gn, c)) ∧ (((decide (0 ≤ ((k : Nat) : Int) ∧ ((k : Nat) : Int) ≤ 6)) = true) → ((((60 * v) + w) * 7) + k < 25200) ∧ (post (some (vi (c 66 ((((60 * v) + w) * 7) + k)))) (S nw nx g, 78 + gn, c)))))) :
    SW G (j + 1) mX9_pAt 0 [some (vr (49)), some (vi (((v : Nat) : Int))), some (vi (((w : Nat) : Int))), some (vi (((k : Nat) : Int)))] [] (S nw nx g, 78 + gn, c) B0 post := by
  refine sw_iload_n (dX9_pAt.at 0 rfl) rfl rfl ?_
  refine sw_i2l (dX9_pAt.at 1 rfl) (nrng hv.1) ?_
  replace hv := hv.2
  refine sw_lconst (z := 0) (dX9_pAt.at 2 rfl) (by decide) ?_
  refine sw_ldc2 (z := 6) (dX9_pAt.at 3 rfl) kc_X9_290 (by decide) ?_
  refine sw_callS (post' := post) (B' := B0) (As := [vl (((k : Nat) : Int)), vl (0), vl (6)]) (mc := 0) (ms := 0) (dX9_pAt.at 4 rfl) lk_X9_104 rfl rfl (Nat.le_of_ble_eq_true rfl) rfl (Nat.le_refl _) (Nat.le_refl _) ?_
  refine c_X9_in (u := ((k : Nat) : Int)) (lo := 0) (hi := 6) (j := j + 0) hv.1 hv.2.1 hv.2.2.1 ?_
  replace hv := hv.2.2.2
  refine sw_if_eq (tgt := 31) (dX9_pAt.at 5 rfl) (by decide) (bz_rng _) (fun q => ?_) (fun q => ?_)
  · replace hv := hv.1 (bz_0 q)
    refine sw_iconst (dX9_pAt.at 19 rfl) ?_
    exact sw_iret (dX9_pAt.at 20 rfl) rfl (Nat.le_refl _) (Nat.le_refl _) hv
  · replace hv := hv.2 (bz_n0 q)
    refine sw_aload_n (dX9_pAt.at 6 rfl) rfl rfl ?_
    refine sw_getR (dX9_pAt.at 7 rfl) fp_X9_64 (S_lt 49 (by decide)) (S_49 nw nx g) rfl rfl ?_
    refine sw_bipush (dX9_pAt.at 8 rfl) (by decide) ?_
    refine sw_iload_n (dX9_pAt.at 9 rfl) rfl rfl ?_
    refine sw_imul (dX9_pAt.at 10 rfl) ?_
    refine sw_topI (y := ((60 * v : Nat) : Int)) (by first | rfl | (congr 1)) ?_
    refine sw_iload_n (dX9_pAt.at 11 rfl) rfl rfl ?_
    refine sw_iadd (dX9_pAt.at 12 rfl) ?_
    refine sw_topI (y := (((60 * v) + w : Nat) : Int)) (by first | rfl | (congr 1)) ?_
    refine sw_bipush (dX9_pAt.at 13 rfl) (by decide) ?_
    refine sw_imul (dX9_pAt.at 14 rfl) ?_
    refine sw_topI (y := ((((60 * v) + w) * 7 : Nat) : Int)) (by first | rfl | (congr 1)) ?_
    refine sw_iload_n (dX9_pAt.at 15 rfl) rfl rfl ?_
    refine sw_iadd (dX9_pAt.at 16 rfl) ?_
    refine sw_topI (y := (((((60 * v) + w) * 7) + k : Nat) : Int)) (by first | rfl | (congr 1)) ?_
    refine sw_ialdN ((((60 * v) + w) * 7) + k) (dX9_pAt.at 17 rfl) (S_lt 66 (by decide)) (S_66 nw nx g) (by decide) hv.1 rfl ?_
    replace hv := hv.2
    refine sw_goto (tgt := 32) (dX9_pAt.at 18 rfl) (by decide) ?_
    exact sw_iret (dX9_pAt.at 20 rfl) rfl (Nat.le_refl _) (Nat.le_refl _) hv

set_option maxHeartbeats 2000000 in
set_option maxRecDepth 20000 in
theorem g_X9_pAt_i {G : GG} {j nw nx gn : Nat} {g : Nat → Sh} {c : Nat → Nat → Int} {post : Option AV → AM → Prop} {v : Nat} {w : Nat} {k : Int}  (hv : (-2147483648 ≤ k ∧ k < 2147483648) ∧ ((-9223372036854775808 ≤ (k : Int) ∧ (k : Int) < 9223372036854775808) ∧ (-9223372036854775808 ≤ (0 : Int) ∧ (0 : Int) < 9223372036854775808) ∧ (-9223372036854775808 ≤ (6 : Int) ∧ (6 : Int) < 9223372036854775808) ∧ ((((decide (0 ≤ k ∧ k ≤ 6)) = false) → post (some (vi (0))) (S nw nx g, 78 + gn, c)) ∧ (((decide (0 ≤ k ∧ k ≤ 6)) = true) → SW G (j + 1) mX9_pAt 27 [some (vr (49)), some (vi (((v : Nat) : Int))), some (vi (((w : Nat) : Int))), some (vi (k))] [vi (((((60 * v) + w) * 7 : Nat) : Int) + k), vr (66)] (S nw nx g, 78 + gn, c) B0 post)))) :
    SW G (j + 1) mX9_pAt 0 [some (vr (49)), some (vi (((v : Nat) : Int))), some (vi (((w : Nat) : Int))), some (vi (k))] [] (S nw nx g, 78 + gn, c) B0 post := by
  refine sw_iload_n (dX9_pAt.at 0 rfl) rfl rfl ?_
  refine sw_i2l (dX9_pAt.at 1 rfl) hv.1 ?_
  replace hv := hv.2
  refine sw_lconst (z := 0) (dX9_pAt.at 2 rfl) (by decide) ?_
  refine sw_ldc2 (z := 6) (dX9_pAt.at 3 rfl) kc_X9_290 (by decide) ?_
  refine sw_callS (post' := post) (B' := B0) (As := [vl (k), vl (0), vl (6)]) (mc := 0) (ms := 0) (dX9_pAt.at 4 rfl) lk_X9_104 rfl rfl (Nat.le_of_ble_eq_true rfl) rfl (Nat.le_refl _) (Nat.le_refl _) ?_
  refine c_X9_in (u := k) (lo := 0) (hi := 6) (j := j + 0) hv.1 hv.2.1 hv.2.2.1 ?_
  replace hv := hv.2.2.2
  refine sw_if_eq (tgt := 31) (dX9_pAt.at 5 rfl) (by decide) (bz_rng _) (fun q => ?_) (fun q => ?_)
  · replace hv := hv.1 (bz_0 q)
    refine sw_iconst (dX9_pAt.at 19 rfl) ?_
    exact sw_iret (dX9_pAt.at 20 rfl) rfl (Nat.le_refl _) (Nat.le_refl _) hv
  · replace hv := hv.2 (bz_n0 q)
    refine sw_aload_n (dX9_pAt.at 6 rfl) rfl rfl ?_
    refine sw_getR (dX9_pAt.at 7 rfl) fp_X9_64 (S_lt 49 (by decide)) (S_49 nw nx g) rfl rfl ?_
    refine sw_bipush (dX9_pAt.at 8 rfl) (by decide) ?_
    refine sw_iload_n (dX9_pAt.at 9 rfl) rfl rfl ?_
    refine sw_imul (dX9_pAt.at 10 rfl) ?_
    refine sw_topI (y := ((60 * v : Nat) : Int)) (by first | rfl | (congr 1)) ?_
    refine sw_iload_n (dX9_pAt.at 11 rfl) rfl rfl ?_
    refine sw_iadd (dX9_pAt.at 12 rfl) ?_
    refine sw_topI (y := (((60 * v) + w : Nat) : Int)) (by first | rfl | (congr 1)) ?_
    refine sw_bipush (dX9_pAt.at 13 rfl) (by decide) ?_
    refine sw_imul (dX9_pAt.at 14 rfl) ?_
    refine sw_topI (y := ((((60 * v) + w) * 7 : Nat) : Int)) (by first | rfl | (congr 1)) ?_
    refine sw_iload_n (dX9_pAt.at 15 rfl) rfl rfl ?_
    refine sw_iadd (dX9_pAt.at 16 rfl) ?_
    exact hv

set_option maxHeartbeats 2000000 in
theorem c_X9_pAt {G : GG} {j nw nx gn : Nat} {g : Nat → Sh} {c : Nat → Nat → Int} {post : Option AV → AM → Prop} {v w : Nat} {k : Int} (p1 : v < 60) (p2 : w < 60) (p3 : -2147483648 ≤ k ∧ k < 2147483648) (K : post (some (vi (rAtF (c 66) 7 v w k))) (S nw nx g, 78 + gn, c)) : SM G (j + 2) mX9_pAt [vr 49, vi ((v : Nat) : Int), vi ((w : Nat) : Int), vi k] (S nw nx g, 78 + gn, c) 0 0 post := by
  refine sm_of wX9_pAt rfl (Nat.le_of_ble_eq_true rfl) ?_
  by_cases h0 : 0 ≤ k
  · obtain ⟨k, rfl⟩ : ∃ n : Nat, k = (n : Int) := ⟨k.toNat, by omega⟩
    refine g_X9_pAt_n ?_
    rw [rAtF] at K
    refine ⟨?_, ⟨?_, ?_, ?_, ⟨fun q => ?_, fun q => ⟨?_, ?_⟩⟩⟩⟩
    all_goals (try simp only [decide_eq_true_eq, decide_eq_false_iff_not] at *)
    all_goals first | omega | (rw [if_pos (by omega), Int.toNat_natCast] at K; exact K) | (rw [if_neg (by omega)] at K; exact K)
  · refine g_X9_pAt_i ?_
    rw [rAtF, if_neg (by omega)] at K
    refine ⟨?_, ⟨?_, ?_, ?_, ⟨fun q => ?_, fun q => ?_⟩⟩⟩
    all_goals (try simp only [decide_eq_true_eq, decide_eq_false_iff_not] at *)
    all_goals first | omega | exact K | (exfalso; omega)

def RLp (P : GD) (F : Nat → Int) (w v : Nat) : Prop := ∀ a b k, a < gN P → b < gN P → k < 14 → (b < w ∨ (b = w ∧ a < v)) → F ((60 * a + b) * 14 + k) = rF P a b k
theorem RLp_u {P : GD} {F F2 : Nat → Int} {w v : Nat} (hN : gN P ≤ 60) (h : RLp P F w v) (hv : v < gN P) (hw : w < gN P) (h1 : ∀ q, (q < (60 * v + w) * 14 ∨ (60 * v + w) * 14 + 14 ≤ q) → F2 q = F q) (h2 : ∀ k, k < 14 → F2 ((60 * v + w) * 14 + k) = rF P v w k) : RLp P F2 w (v + 1) := by
  intro a b k ha hb hk hh
  by_cases e : a = v ∧ b = w
  · rw [e.1, e.2]; exact h2 k hk
  · rw [h1 _ (by omega)]
    exact h a b k ha hb hk (by omega)
theorem RLp_at {P : GD} {F : Nat → Int} {w v : Nat} (h : RLp P F w v) {F2 : Nat → Int} {b0 : Nat} (hb : b0 = (60 * v + w) * 14) (h1 : ∀ q, (q < b0 ∨ b0 + 14 ≤ q) → F2 q = F q) {a b : Nat} (ha : a < gN P) (hbN : b < gN P) (hN : gN P ≤ 60) (hw : w < gN P) (hbw : b < w) {k : Nat} (hk : k < 14) : rAtF F2 14 a b (k : Int) = rF P a b k := by
  rw [rAtF, if_pos (by omega), Int.toNat_natCast, h1 _ (by omega)]
  exact h a b k ha hbN hk (Or.inl hbw)
theorem RLp_at1 {P : GD} {F : Nat → Int} {w v : Nat} (h : RLp P F w v) {F2 : Nat → Int} {b0 : Nat} (hb : b0 = (60 * v + w) * 14) (h1 : ∀ q, (q < b0 ∨ b0 + 14 ≤ q) → F2 q = F q) {a b : Nat} (ha : a < gN P) (hbN : b < gN P) (hN : gN P ≤ 60) (hw : w < gN P) (hbw : b < w) {k : Nat} (hk : k < 14) : rAtF F2 14 a b ((k : Int) - 1) = if k = 0 then 0 else rF P a b (k - 1) := by
  by_cases e : k = 0
  · rw [if_pos e, rAtF, if_neg (by omega)]
  · rw [if_neg e, show (k : Int) - 1 = ((k - 1 : Nat) : Int) by omega]
    exact RLp_at h hb h1 ha hbN hN hw hbw (by omega)
set_option maxHeartbeats 2000000 in
set_option maxRecDepth 20000 in
theorem g_X9_laysR_104 {G : GG} {j nw nx gn : Nat} {g : Nat → Sh} {c : Nat → Nat → Int} {post : Option AV → AM → Prop} {v : Nat} {w : Nat} {P : GD} {F : Nat → Int} {b0 : Nat} {s : Nat} {vs : Nat} {ws : Nat} {k0 : Nat} (hM : ML c P) (hV : GV P) (hC : GC P)  (hv : (k0 < 2147483648) ∧ (((14 ≤ k0) → post none (S nw nx g, 78 + gn, (wr c 65 F))) ∧ ((¬ (14 ≤ k0)) → (v < gN P) ∧ (s < gR P) ∧ (1 < 2) ∧ (((((dsc P v 1).testBit s) = false) → (vs < 60) ∧ (ws < 60) ∧ (-2147483648 ≤ (((k0 : Nat) : Int) - 1) ∧ (((k0 : Nat) : Int) - 1) < 2147483648) ∧ ((v < 60) ∧ (ws < 60) ∧ (-2147483648 ≤ (((k0 : Nat) : Int) - 1) ∧ (((k0 : Nat) : Int) - 1) < 2147483648) ∧ ((v < 60) ∧ (ws < 60) ∧ (-2147483648 ≤ ((k0 : Nat) : Int) ∧ ((k0 : Nat) : Int) < 2147483648) ∧ ((b0 + k0 < 50400) ∧ (SW G (j + 2) mX9_laysR 104 [some (vr (49)), some (vi (((v : Nat) : Int))), some (vi (((w : Nat) : Int))), some (vi (((b0 : Nat) : Int))), some (vi (((s : Nat) : Int))), some (vi (((vs : Nat) : Int))), some (vi (((ws : Nat) : Int))), some (vi (((k0 + 1 : Nat) : Int)))] [] (S nw nx g, 78 + gn, (wr c 65 (u1 F (b0 + k0) (((rAtF F 14 vs ws (((k0 : Nat) : Int) - 1)) + (rAtF F 14 v ws (((k0 : Nat) : Int) - 1))) - (rAtF F 14 v ws ((k0 : Nat) : Int)))))) B0 post))))) ∧ ((((dsc P v 1).testBit s) = true) → (vs < 60) ∧ (ws < 60) ∧ (-2147483648 ≤ ((k0 : Nat) : Int) ∧ ((k0 : Nat) : Int) < 2147483648) ∧ ((b0 + k0 < 50400) ∧ (SW G (j + 2) mX9_laysR 104 [some (vr (49)), some (vi (((v : Nat) : Int))), some (vi (((w : Nat) : Int))), some (vi (((b0 : Nat) : Int))), some (vi (((s : Nat) : Int))), some (vi (((vs : Nat) : Int))), some (vi (((ws : Nat) : Int))), some (vi (((k0 + 1 : Nat) : Int)))] [] (S nw nx g, 78 + gn, (wr c 65 (u1 F (b0 + k0) (rAtF F 14 vs ws ((k0 : Nat) : Int))))) B0 post))))))) :
    SW G (j + 2) mX9_laysR 104 [some (vr (49)), some (vi (((v : Nat) : Int))), some (vi (((w : Nat) : Int))), some (vi (((b0 : Nat) : Int))), some (vi (((s : Nat) : Int))), some (vi (((vs : Nat) : Int))), some (vi (((ws : Nat) : Int))), some (vi (((k0 : Nat) : Int)))] [] (S nw nx g, 78 + gn, (wr c 65 F)) B0 post := by
  refine sw_iload (dX9_laysR_1.at 17 rfl) rfl ?_
  refine sw_bipush (dX9_laysR_1.at 18 rfl) (by decide) ?_
  refine sw_icmpN_ge k0 14 (tgt := 184) (dX9_laysR_1.at 19 rfl) (by decide) hv.1 (by decide) (fun q => ?_) (fun q => ?_)
  · replace hv := hv.2.1 q
    exact sw_vret (dX9_laysR_2.at 11 rfl) rfl (Nat.le_refl _) (Nat.le_refl _) hv
  · replace hv := hv.2.2 q
    refine sw_aload_n (dX9_laysR_1.at 20 rfl) rfl rfl ?_
    refine sw_getR (dX9_laysR_1.at 21 rfl) fp_X9_61 (S_lt 49 (by decide)) (S_49 nw nx g) rfl rfl ?_
    refine sw_iload_n (dX9_laysR_1.at 22 rfl) rfl rfl ?_
    refine sw_iload (dX9_laysR_1.at 23 rfl) rfl ?_
    refine sw_iadd (dX9_laysR_1.at 24 rfl) ?_
    refine sw_topI (y := ((b0 + k0 : Nat) : Int)) (by first | rfl | (congr 1)) ?_
    refine sw_aload_n (dX9_laysR_1.at 25 rfl) rfl rfl ?_
    refine sw_iload_n (dX9_laysR_1.at 26 rfl) rfl rfl ?_
    refine sw_iload (dX9_laysR_1.at 27 rfl) rfl ?_
    refine sw_iconst (dX9_laysR_1.at 28 rfl) ?_
    refine sw_callV (B' := B0) (As := [vi (((v : Nat) : Int)), vi (((s : Nat) : Int)), vi (1)]) (mc := 0) (ms := 0) (dX9_laysR_1.at 29 rfl) lk_X9_244 (S_lt 49 (by decide)) (S_49 nw nx g) rfl rfl (Nat.le_of_ble_eq_true rfl) rfl (Nat.le_refl _) (Nat.le_refl _) ?_
    refine c_X9_isShorter (x := v) (s := s) (sd := 1) (j := j + 1) (ML_SD hM (SD_wr SD_rf (a := 65) (f := F) (by decide))) hV hC hv.1 hv.2.1 hv.2.2.1 ?_
    replace hv := hv.2.2.2
    refine sw_if_eq (tgt := 143) (dX9_laysR_1.at 30 rfl) (by decide) (bz_rng _) (fun q => ?_) (fun q => ?_)
    · replace hv := hv.1 (bz_0 q)
      refine sw_aload_n (dX9_laysR_1.at 37 rfl) rfl rfl ?_
      refine sw_iload (dX9_laysR_1.at 38 rfl) rfl ?_
      refine sw_iload (dX9_laysR_1.at 39 rfl) rfl ?_
      refine sw_iload (dX9_laysR_1.at 40 rfl) rfl ?_
      refine sw_iconst (dX9_laysR_1.at 41 rfl) ?_
      refine sw_isub (dX9_laysR_1.at 42 rfl) ?_
      refine sw_callV (B' := B0) (As := [vi (((vs : Nat) : Int)), vi (((ws : Nat) : Int)), vi (((k0 : Nat) : Int) - 1)]) (mc := 0) (ms := 0) (dX9_laysR_1.at 43 rfl) lk_X9_286 (S_lt 49 (by decide)) (S_49 nw nx g) rfl rfl (Nat.le_of_ble_eq_true rfl) rfl (Nat.le_refl _) (Nat.le_refl _) ?_
      refine c_X9_rAt (v := vs) (w := ws) (k := (((k0 : Nat) : Int) - 1)) (j := j + 0) hv.1 hv.2.1 hv.2.2.1 ?_
      replace hv := hv.2.2.2
      refine sw_aload_n (dX9_laysR_1.at 44 rfl) rfl rfl ?_
      refine sw_iload_n (dX9_laysR_1.at 45 rfl) rfl rfl ?_
      refine sw_iload (dX9_laysR_1.at 46 rfl) rfl ?_
      refine sw_iload (dX9_laysR_1.at 47 rfl) rfl ?_
      refine sw_iconst (dX9_laysR_1.at 48 rfl) ?_
      refine sw_isub (dX9_laysR_1.at 49 rfl) ?_
      refine sw_callV (B' := B0) (As := [vi (((v : Nat) : Int)), vi (((ws : Nat) : Int)), vi (((k0 : Nat) : Int) - 1)]) (mc := 0) (ms := 0) (dX9_laysR_2.at 0 rfl) lk_X9_286 (S_lt 49 (by decide)) (S_49 nw nx g) rfl rfl (Nat.le_of_ble_eq_true rfl) rfl (Nat.le_refl _) (Nat.le_refl _) ?_
      refine c_X9_rAt (v := v) (w := ws) (k := (((k0 : Nat) : Int) - 1)) (j := j + 0) hv.1 hv.2.1 hv.2.2.1 ?_
      replace hv := hv.2.2.2
      refine sw_iadd (dX9_laysR_2.at 1 rfl) ?_
      refine sw_aload_n (dX9_laysR_2.at 2 rfl) rfl rfl ?_
      refine sw_iload_n (dX9_laysR_2.at 3 rfl) rfl rfl ?_
      refine sw_iload (dX9_laysR_2.at 4 rfl) rfl ?_
      refine sw_iload (dX9_laysR_2.at 5 rfl) rfl ?_
      refine sw_callV (B' := B0) (As := [vi (((v : Nat) : Int)), vi (((ws : Nat) : Int)), vi (((k0 : Nat) : Int))]) (mc := 0) (ms := 0) (dX9_laysR_2.at 6 rfl) lk_X9_286 (S_lt 49 (by decide)) (S_49 nw nx g) rfl rfl (Nat.le_of_ble_eq_true rfl) rfl (Nat.le_refl _) (Nat.le_refl _) ?_
      refine c_X9_rAt (v := v) (w := ws) (k := ((k0 : Nat) : Int)) (j := j + 0) hv.1 hv.2.1 hv.2.2.1 ?_
      replace hv := hv.2.2.2
      refine sw_isub (dX9_laysR_2.at 7 rfl) ?_
      refine sw_iastN (b0 + k0) (dX9_laysR_2.at 8 rfl) (S_lt 65 (by decide)) (S_65 nw nx g) (by decide) hv.1 ?_
      refine SW.cg (M' := (S nw nx g, 78 + gn, (wr c 65 (u1 F (b0 + k0) (((rAtF F 14 vs ws (((k0 : Nat) : Int) - 1)) + (rAtF F 14 v ws (((k0 : Nat) : Int) - 1))) - (rAtF F 14 v ws ((k0 : Nat) : Int))))))) (congrArg (fun m => (S nw nx g, 78 + gn, m)) (wr_up c 65 F (b0 + k0) (((rAtF F 14 vs ws (((k0 : Nat) : Int) - 1)) + (rAtF F 14 v ws (((k0 : Nat) : Int) - 1))) - (rAtF F 14 v ws ((k0 : Nat) : Int))))) ?_
      replace hv := hv.2
      refine sw_iinc (lo' := [some (vr (49)), some (vi (((v : Nat) : Int))), some (vi (((w : Nat) : Int))), some (vi (((b0 : Nat) : Int))), some (vi (((s : Nat) : Int))), some (vi (((vs : Nat) : Int))), some (vi (((ws : Nat) : Int))), some (vi (((k0 + 1 : Nat) : Int)))]) (dX9_laysR_2.at 9 rfl) rfl (by decide) rfl ?_
      refine sw_goto (tgt := 104) (dX9_laysR_2.at 10 rfl) (by decide) ?_
      exact hv
    · replace hv := hv.2 (bz_n0 q)
      refine sw_aload_n (dX9_laysR_1.at 31 rfl) rfl rfl ?_
      refine sw_iload (dX9_laysR_1.at 32 rfl) rfl ?_
      refine sw_iload (dX9_laysR_1.at 33 rfl) rfl ?_
      refine sw_iload (dX9_laysR_1.at 34 rfl) rfl ?_
      refine sw_callV (B' := B0) (As := [vi (((vs : Nat) : Int)), vi (((ws : Nat) : Int)), vi (((k0 : Nat) : Int))]) (mc := 0) (ms := 0) (dX9_laysR_1.at 35 rfl) lk_X9_286 (S_lt 49 (by decide)) (S_49 nw nx g) rfl rfl (Nat.le_of_ble_eq_true rfl) rfl (Nat.le_refl _) (Nat.le_refl _) ?_
      refine c_X9_rAt (v := vs) (w := ws) (k := ((k0 : Nat) : Int)) (j := j + 0) hv.1 hv.2.1 hv.2.2.1 ?_
      replace hv := hv.2.2.2
      refine sw_goto (tgt := 177) (dX9_laysR_1.at 36 rfl) (by decide) ?_
      refine sw_iastN (b0 + k0) (dX9_laysR_2.at 8 rfl) (S_lt 65 (by decide)) (S_65 nw nx g) (by decide) hv.1 ?_
      refine SW.cg (M' := (S nw nx g, 78 + gn, (wr c 65 (u1 F (b0 + k0) (rAtF F 14 vs ws ((k0 : Nat) : Int)))))) (congrArg (fun m => (S nw nx g, 78 + gn, m)) (wr_up c 65 F (b0 + k0) (rAtF F 14 vs ws ((k0 : Nat) : Int)))) ?_
      replace hv := hv.2
      refine sw_iinc (lo' := [some (vr (49)), some (vi (((v : Nat) : Int))), some (vi (((w : Nat) : Int))), some (vi (((b0 : Nat) : Int))), some (vi (((s : Nat) : Int))), some (vi (((vs : Nat) : Int))), some (vi (((ws : Nat) : Int))), some (vi (((k0 + 1 : Nat) : Int)))]) (dX9_laysR_2.at 9 rfl) rfl (by decide) rfl ?_
      refine sw_goto (tgt := 104) (dX9_laysR_2.at 10 rfl) (by decide) ?_
      exact hv

set_option maxHeartbeats 2000000 in
set_option maxRecDepth 20000 in
theorem g_X9_laysR_13 {G : GG} {j nw nx gn : Nat} {g : Nat → Sh} {c : Nat → Nat → Int} {post : Option AV → AM → Prop} {v : Nat} {w : Nat} {P : GD} {F : Nat → Int} {b0 : Nat} {k0 : Nat} (hM : ML c P) (hV : GV P) (hC : GC P) (hB : hBr P) (hA : ∀ a b, a < gN P → b < gN P → c 64 (60 * a + b) = bz ((gD P b).testBit a))  (hv : (k0 < 2147483648) ∧ (((14 ≤ k0) → (v < 2147483648) ∧ (w < 2147483648) ∧ (((v ≠ w) → (v < 2147483648) ∧ (w < 2147483648) ∧ (((v = w) → post none (S nw nx g, 78 + gn, (wr c 65 F))) ∧ ((¬ (v = w)) → (v < gN P) ∧ (w < gN P) ∧ (((((gD P w).testBit v) = true) → (w < gN P) ∧ (0 < w) ∧ ((v < gN P) ∧ ((lsb (gE P w)) < gR P) ∧ ((w < gN P) ∧ ((lsb (gE P w)) < gR P) ∧ (SW G (j + 2) mX9_laysR 104 [some (vr (49)), some (vi (((v : Nat) : Int))), some (vi (((w : Nat) : Int))), some (vi (((b0 : Nat) : Int))), some (vi (((lsb (gE P w) : Nat) : Int))), some (vi (((gS P v (lsb (gE P w)) : Nat) : Int))), some (vi (((gS P w (lsb (gE P w)) : Nat) : Int))), some (vi (0))] [] (S nw nx g, 78 + gn, (wr c 65 F)) B0 post)))) ∧ ((((gD P w).testBit v) = false) → post none (S nw nx g, 78 + gn, (wr c 65 F))))))) ∧ ((v = w) → (b0 < 50400) ∧ ((v < 2147483648) ∧ (w < 2147483648) ∧ (((v = w) → post none (S nw nx g, 78 + gn, (wr c 65 (u1 F b0 1)))) ∧ ((¬ (v = w)) → (v < gN P) ∧ (w < gN P) ∧ (((((gD P w).testBit v) = true) → (w < gN P) ∧ (0 < w) ∧ ((v < gN P) ∧ ((lsb (gE P w)) < gR P) ∧ ((w < gN P) ∧ ((lsb (gE P w)) < gR P) ∧ (SW G (j + 2) mX9_laysR 104 [some (vr (49)), some (vi (((v : Nat) : Int))), some (vi (((w : Nat) : Int))), some (vi (((b0 : Nat) : Int))), some (vi (((lsb (gE P w) : Nat) : Int))), some (vi (((gS P v (lsb (gE P w)) : Nat) : Int))), some (vi (((gS P w (lsb (gE P w)) : Nat) : Int))), some (vi (0))] [] (S nw nx g, 78 + gn, (wr c 65 (u1 F b0 1))) B0 post)))) ∧ ((((gD P w).testBit v) = false) → post none (S nw nx g, 78 + gn, (wr c 65 (u1 F b0 1))))))))))) ∧ ((¬ (14 ≤ k0)) → (b0 + k0 < 50400) ∧ (SW G (j + 2) mX9_laysR 13 [some (vr (49)), some (vi (((v : Nat) : Int))), some (vi (((w : Nat) : Int))), some (vi (((b0 : Nat) : Int))), some (vi (((k0 + 1 : Nat) : Int))), none, none, none] [] (S nw nx g, 78 + gn, (wr c 65 (u1 F (b0 + k0) 0))) B0 post)))) :
    SW G (j + 2) mX9_laysR 13 [some (vr (49)), some (vi (((v : Nat) : Int))), some (vi (((w : Nat) : Int))), some (vi (((b0 : Nat) : Int))), some (vi (((k0 : Nat) : Int))), none, none, none] [] (S nw nx g, 78 + gn, (wr c 65 F)) B0 post := by
  refine sw_iload (dX9_laysR_0.at 10 rfl) rfl ?_
  refine sw_bipush (dX9_laysR_0.at 11 rfl) (by decide) ?_
  refine sw_icmpN_ge k0 14 (tgt := 36) (dX9_laysR_0.at 12 rfl) (by decide) hv.1 (by decide) (fun q => ?_) (fun q => ?_)
  · replace hv := hv.2.1 q
    refine sw_iload_n (dX9_laysR_0.at 22 rfl) rfl rfl ?_
    refine sw_iload_n (dX9_laysR_0.at 23 rfl) rfl rfl ?_
    refine sw_icmpN_ne v w (tgt := 48) (dX9_laysR_0.at 24 rfl) (by decide) hv.1 hv.2.1 (fun q => ?_) (fun q => ?_)
    · replace hv := hv.2.2.1 q
      refine sw_iload_n (dX9_laysR_0.at 30 rfl) rfl rfl ?_
      refine sw_iload_n (dX9_laysR_0.at 31 rfl) rfl rfl ?_
      refine sw_icmpN_eq v w (tgt := 67) (dX9_laysR_0.at 32 rfl) (by decide) hv.1 hv.2.1 (fun q => ?_) (fun q => ?_)
      · replace hv := hv.2.2.1 q
        exact sw_vret (dX9_laysR_0.at 42 rfl) rfl (Nat.le_refl _) (Nat.le_refl _) hv
      · replace hv := hv.2.2.2 q
        refine sw_aload_n (dX9_laysR_0.at 33 rfl) rfl rfl ?_
        refine sw_getR (dX9_laysR_0.at 34 rfl) fp_X9_56 (S_lt 49 (by decide)) (S_49 nw nx g) rfl rfl ?_
        refine sw_bipush (dX9_laysR_0.at 35 rfl) (by decide) ?_
        refine sw_iload_n (dX9_laysR_0.at 36 rfl) rfl rfl ?_
        refine sw_imul (dX9_laysR_0.at 37 rfl) ?_
        refine sw_topI (y := ((60 * v : Nat) : Int)) (by first | rfl | (congr 1)) ?_
        refine sw_iload_n (dX9_laysR_0.at 38 rfl) rfl rfl ?_
        refine sw_iadd (dX9_laysR_0.at 39 rfl) ?_
        refine sw_topI (y := (((60 * v) + w : Nat) : Int)) (by first | rfl | (congr 1)) ?_
        refine sw_zaldN ((60 * v) + w) (w := bz ((gD P w).testBit v)) (dX9_laysR_0.at 40 rfl) (S_lt 64 (by decide)) (S_64 nw nx g) (by decide) (by have := GV_N hV; omega) (hA _ _ hv.1 hv.2.1) ?_
        replace hv := hv.2.2
        refine sw_if_ne (tgt := 68) (dX9_laysR_0.at 41 rfl) (by decide) (bz_rng _) (fun q => ?_) (fun q => ?_)
        · replace hv := hv.1 (bz_1 q)
          refine sw_aload_n (dX9_laysR_0.at 43 rfl) rfl rfl ?_
          refine sw_iload_n (dX9_laysR_0.at 44 rfl) rfl rfl ?_
          refine sw_callV (B' := B0) (As := [vi (((w : Nat) : Int))]) (mc := 0) (ms := 0) (dX9_laysR_0.at 45 rfl) lk_X9_281 (S_lt 49 (by decide)) (S_49 nw nx g) rfl rfl (Nat.le_of_ble_eq_true rfl) rfl (Nat.le_refl _) (Nat.le_refl _) ?_
          refine c_X9_shorterBy (w := w) (j := j + 0) (ML_SD hM (SD_wr SD_rf (a := 65) (f := F) (by decide))) hV hC hB hv.1 hv.2.1 ?_
          replace hv := hv.2.2
          refine sw_istore (lo' := [some (vr (49)), some (vi (((v : Nat) : Int))), some (vi (((w : Nat) : Int))), some (vi (((b0 : Nat) : Int))), some (vi (((lsb (gE P w) : Nat) : Int))), none, none, none]) (dX9_laysR_0.at 46 rfl) (by decide) rfl ?_
          refine sw_aload_n (dX9_laysR_0.at 47 rfl) rfl rfl ?_
          refine sw_getR (dX9_laysR_0.at 48 rfl) fp_X9_26 (S_lt 49 (by decide)) (S_49 nw nx g) rfl rfl ?_
          refine sw_iconst (dX9_laysR_0.at 49 rfl) ?_
          refine sw_iload_n (dX9_laysR_1.at 0 rfl) rfl rfl ?_
          refine sw_imul (dX9_laysR_1.at 1 rfl) ?_
          refine sw_topI (y := ((5 * v : Nat) : Int)) (by first | rfl | (congr 1)) ?_
          refine sw_iload (dX9_laysR_1.at 2 rfl) rfl ?_
          refine sw_iadd (dX9_laysR_1.at 3 rfl) ?_
          refine sw_topI (y := (((5 * v) + (lsb (gE P w)) : Nat) : Int)) (by first | rfl | (congr 1)) ?_
          refine sw_ialdN ((5 * v) + (lsb (gE P w))) (w := ((gS P v (lsb (gE P w)) : Nat) : Int)) (dX9_laysR_1.at 4 rfl) (S_lt 54 (by decide)) (S_54 nw nx g) (by decide) (GV_5 hV hv.1 hv.2.1) (ML_S (ML_SD hM (SD_wr SD_rf (a := 65) (f := F) (by decide))) hv.1 hv.2.1) ?_
          replace hv := hv.2.2
          refine sw_istore (lo' := [some (vr (49)), some (vi (((v : Nat) : Int))), some (vi (((w : Nat) : Int))), some (vi (((b0 : Nat) : Int))), some (vi (((lsb (gE P w) : Nat) : Int))), some (vi (((gS P v (lsb (gE P w)) : Nat) : Int))), none, none]) (dX9_laysR_1.at 5 rfl) (by decide) rfl ?_
          refine sw_aload_n (dX9_laysR_1.at 6 rfl) rfl rfl ?_
          refine sw_getR (dX9_laysR_1.at 7 rfl) fp_X9_26 (S_lt 49 (by decide)) (S_49 nw nx g) rfl rfl ?_
          refine sw_iconst (dX9_laysR_1.at 8 rfl) ?_
          refine sw_iload_n (dX9_laysR_1.at 9 rfl) rfl rfl ?_
          refine sw_imul (dX9_laysR_1.at 10 rfl) ?_
          refine sw_topI (y := ((5 * w : Nat) : Int)) (by first | rfl | (congr 1)) ?_
          refine sw_iload (dX9_laysR_1.at 11 rfl) rfl ?_
          refine sw_iadd (dX9_laysR_1.at 12 rfl) ?_
          refine sw_topI (y := (((5 * w) + (lsb (gE P w)) : Nat) : Int)) (by first | rfl | (congr 1)) ?_
          refine sw_ialdN ((5 * w) + (lsb (gE P w))) (w := ((gS P w (lsb (gE P w)) : Nat) : Int)) (dX9_laysR_1.at 13 rfl) (S_lt 54 (by decide)) (S_54 nw nx g) (by decide) (GV_5 hV hv.1 hv.2.1) (ML_S (ML_SD hM (SD_wr SD_rf (a := 65) (f := F) (by decide))) hv.1 hv.2.1) ?_
          replace hv := hv.2.2
          refine sw_istore (lo' := [some (vr (49)), some (vi (((v : Nat) : Int))), some (vi (((w : Nat) : Int))), some (vi (((b0 : Nat) : Int))), some (vi (((lsb (gE P w) : Nat) : Int))), some (vi (((gS P v (lsb (gE P w)) : Nat) : Int))), some (vi (((gS P w (lsb (gE P w)) : Nat) : Int))), none]) (dX9_laysR_1.at 14 rfl) (by decide) rfl ?_
          refine sw_iconst (dX9_laysR_1.at 15 rfl) ?_
          refine sw_istore (lo' := [some (vr (49)), some (vi (((v : Nat) : Int))), some (vi (((w : Nat) : Int))), some (vi (((b0 : Nat) : Int))), some (vi (((lsb (gE P w) : Nat) : Int))), some (vi (((gS P v (lsb (gE P w)) : Nat) : Int))), some (vi (((gS P w (lsb (gE P w)) : Nat) : Int))), some (vi (0))]) (dX9_laysR_1.at 16 rfl) (by decide) rfl ?_
          exact hv
        · replace hv := hv.2 (bz_n1 q)
          exact sw_vret (dX9_laysR_0.at 42 rfl) rfl (Nat.le_refl _) (Nat.le_refl _) hv
    · replace hv := hv.2.2.2 q
      refine sw_aload_n (dX9_laysR_0.at 25 rfl) rfl rfl ?_
      refine sw_getR (dX9_laysR_0.at 26 rfl) fp_X9_61 (S_lt 49 (by decide)) (S_49 nw nx g) rfl rfl ?_
      refine sw_iload_n (dX9_laysR_0.at 27 rfl) rfl rfl ?_
      refine sw_iconst (dX9_laysR_0.at 28 rfl) ?_
      refine sw_iastN b0 (dX9_laysR_0.at 29 rfl) (S_lt 65 (by decide)) (S_65 nw nx g) (by decide) hv.1 ?_
      refine SW.cg (M' := (S nw nx g, 78 + gn, (wr c 65 (u1 F b0 1)))) (congrArg (fun m => (S nw nx g, 78 + gn, m)) (wr_up c 65 F b0 1)) ?_
      replace hv := hv.2
      refine sw_iload_n (dX9_laysR_0.at 30 rfl) rfl rfl ?_
      refine sw_iload_n (dX9_laysR_0.at 31 rfl) rfl rfl ?_
      refine sw_icmpN_eq v w (tgt := 67) (dX9_laysR_0.at 32 rfl) (by decide) hv.1 hv.2.1 (fun q => ?_) (fun q => ?_)
      · replace hv := hv.2.2.1 q
        exact sw_vret (dX9_laysR_0.at 42 rfl) rfl (Nat.le_refl _) (Nat.le_refl _) hv
      · replace hv := hv.2.2.2 q
        refine sw_aload_n (dX9_laysR_0.at 33 rfl) rfl rfl ?_
        refine sw_getR (dX9_laysR_0.at 34 rfl) fp_X9_56 (S_lt 49 (by decide)) (S_49 nw nx g) rfl rfl ?_
        refine sw_bipush (dX9_laysR_0.at 35 rfl) (by decide) ?_
        refine sw_iload_n (dX9_laysR_0.at 36 rfl) rfl rfl ?_
        refine sw_imul (dX9_laysR_0.at 37 rfl) ?_
        refine sw_topI (y := ((60 * v : Nat) : Int)) (by first | rfl | (congr 1)) ?_
        refine sw_iload_n (dX9_laysR_0.at 38 rfl) rfl rfl ?_
        refine sw_iadd (dX9_laysR_0.at 39 rfl) ?_
        refine sw_topI (y := (((60 * v) + w : Nat) : Int)) (by first | rfl | (congr 1)) ?_
        refine sw_zaldN ((60 * v) + w) (w := bz ((gD P w).testBit v)) (dX9_laysR_0.at 40 rfl) (S_lt 64 (by decide)) (S_64 nw nx g) (by decide) (by have := GV_N hV; omega) (hA _ _ hv.1 hv.2.1) ?_
        replace hv := hv.2.2
        refine sw_if_ne (tgt := 68) (dX9_laysR_0.at 41 rfl) (by decide) (bz_rng _) (fun q => ?_) (fun q => ?_)
        · replace hv := hv.1 (bz_1 q)
          refine sw_aload_n (dX9_laysR_0.at 43 rfl) rfl rfl ?_
          refine sw_iload_n (dX9_laysR_0.at 44 rfl) rfl rfl ?_
          refine sw_callV (B' := B0) (As := [vi (((w : Nat) : Int))]) (mc := 0) (ms := 0) (dX9_laysR_0.at 45 rfl) lk_X9_281 (S_lt 49 (by decide)) (S_49 nw nx g) rfl rfl (Nat.le_of_ble_eq_true rfl) rfl (Nat.le_refl _) (Nat.le_refl _) ?_
          refine c_X9_shorterBy (w := w) (j := j + 0) (ML_SD hM (SD_wr SD_rf (a := 65) (f := (u1 F b0 1)) (by decide))) hV hC hB hv.1 hv.2.1 ?_
          replace hv := hv.2.2
          refine sw_istore (lo' := [some (vr (49)), some (vi (((v : Nat) : Int))), some (vi (((w : Nat) : Int))), some (vi (((b0 : Nat) : Int))), some (vi (((lsb (gE P w) : Nat) : Int))), none, none, none]) (dX9_laysR_0.at 46 rfl) (by decide) rfl ?_
          refine sw_aload_n (dX9_laysR_0.at 47 rfl) rfl rfl ?_
          refine sw_getR (dX9_laysR_0.at 48 rfl) fp_X9_26 (S_lt 49 (by decide)) (S_49 nw nx g) rfl rfl ?_
          refine sw_iconst (dX9_laysR_0.at 49 rfl) ?_
          refine sw_iload_n (dX9_laysR_1.at 0 rfl) rfl rfl ?_
          refine sw_imul (dX9_laysR_1.at 1 rfl) ?_
          refine sw_topI (y := ((5 * v : Nat) : Int)) (by first | rfl | (congr 1)) ?_
          refine sw_iload (dX9_laysR_1.at 2 rfl) rfl ?_
          refine sw_iadd (dX9_laysR_1.at 3 rfl) ?_
          refine sw_topI (y := (((5 * v) + (lsb (gE P w)) : Nat) : Int)) (by first | rfl | (congr 1)) ?_
          refine sw_ialdN ((5 * v) + (lsb (gE P w))) (w := ((gS P v (lsb (gE P w)) : Nat) : Int)) (dX9_laysR_1.at 4 rfl) (S_lt 54 (by decide)) (S_54 nw nx g) (by decide) (GV_5 hV hv.1 hv.2.1) (ML_S (ML_SD hM (SD_wr SD_rf (a := 65) (f := (u1 F b0 1)) (by decide))) hv.1 hv.2.1) ?_
          replace hv := hv.2.2
          refine sw_istore (lo' := [some (vr (49)), some (vi (((v : Nat) : Int))), some (vi (((w : Nat) : Int))), some (vi (((b0 : Nat) : Int))), some (vi (((lsb (gE P w) : Nat) : Int))), some (vi (((gS P v (lsb (gE P w)) : Nat) : Int))), none, none]) (dX9_laysR_1.at 5 rfl) (by decide) rfl ?_
          refine sw_aload_n (dX9_laysR_1.at 6 rfl) rfl rfl ?_
          refine sw_getR (dX9_laysR_1.at 7 rfl) fp_X9_26 (S_lt 49 (by decide)) (S_49 nw nx g) rfl rfl ?_
          refine sw_iconst (dX9_laysR_1.at 8 rfl) ?_
          refine sw_iload_n (dX9_laysR_1.at 9 rfl) rfl rfl ?_
          refine sw_imul (dX9_laysR_1.at 10 rfl) ?_
          refine sw_topI (y := ((5 * w : Nat) : Int)) (by first | rfl | (congr 1)) ?_
          refine sw_iload (dX9_laysR_1.at 11 rfl) rfl ?_
          refine sw_iadd (dX9_laysR_1.at 12 rfl) ?_
          refine sw_topI (y := (((5 * w) + (lsb (gE P w)) : Nat) : Int)) (by first | rfl | (congr 1)) ?_
          refine sw_ialdN ((5 * w) + (lsb (gE P w))) (w := ((gS P w (lsb (gE P w)) : Nat) : Int)) (dX9_laysR_1.at 13 rfl) (S_lt 54 (by decide)) (S_54 nw nx g) (by decide) (GV_5 hV hv.1 hv.2.1) (ML_S (ML_SD hM (SD_wr SD_rf (a := 65) (f := (u1 F b0 1)) (by decide))) hv.1 hv.2.1) ?_
          replace hv := hv.2.2
          refine sw_istore (lo' := [some (vr (49)), some (vi (((v : Nat) : Int))), some (vi (((w : Nat) : Int))), some (vi (((b0 : Nat) : Int))), some (vi (((lsb (gE P w) : Nat) : Int))), some (vi (((gS P v (lsb (gE P w)) : Nat) : Int))), some (vi (((gS P w (lsb (gE P w)) : Nat) : Int))), none]) (dX9_laysR_1.at 14 rfl) (by decide) rfl ?_
          refine sw_iconst (dX9_laysR_1.at 15 rfl) ?_
          refine sw_istore (lo' := [some (vr (49)), some (vi (((v : Nat) : Int))), some (vi (((w : Nat) : Int))), some (vi (((b0 : Nat) : Int))), some (vi (((lsb (gE P w) : Nat) : Int))), some (vi (((gS P v (lsb (gE P w)) : Nat) : Int))), some (vi (((gS P w (lsb (gE P w)) : Nat) : Int))), some (vi (0))]) (dX9_laysR_1.at 16 rfl) (by decide) rfl ?_
          exact hv
        · replace hv := hv.2 (bz_n1 q)
          exact sw_vret (dX9_laysR_0.at 42 rfl) rfl (Nat.le_refl _) (Nat.le_refl _) hv
  · replace hv := hv.2.2 q
    refine sw_aload_n (dX9_laysR_0.at 13 rfl) rfl rfl ?_
    refine sw_getR (dX9_laysR_0.at 14 rfl) fp_X9_61 (S_lt 49 (by decide)) (S_49 nw nx g) rfl rfl ?_
    refine sw_iload_n (dX9_laysR_0.at 15 rfl) rfl rfl ?_
    refine sw_iload (dX9_laysR_0.at 16 rfl) rfl ?_
    refine sw_iadd (dX9_laysR_0.at 17 rfl) ?_
    refine sw_topI (y := ((b0 + k0 : Nat) : Int)) (by first | rfl | (congr 1)) ?_
    refine sw_iconst (dX9_laysR_0.at 18 rfl) ?_
    refine sw_iastN (b0 + k0) (dX9_laysR_0.at 19 rfl) (S_lt 65 (by decide)) (S_65 nw nx g) (by decide) hv.1 ?_
    refine SW.cg (M' := (S nw nx g, 78 + gn, (wr c 65 (u1 F (b0 + k0) 0)))) (congrArg (fun m => (S nw nx g, 78 + gn, m)) (wr_up c 65 F (b0 + k0) 0)) ?_
    replace hv := hv.2
    refine sw_iinc (lo' := [some (vr (49)), some (vi (((v : Nat) : Int))), some (vi (((w : Nat) : Int))), some (vi (((b0 : Nat) : Int))), some (vi (((k0 + 1 : Nat) : Int))), none, none, none]) (dX9_laysR_0.at 20 rfl) rfl (by decide) rfl ?_
    refine sw_goto (tgt := 13) (dX9_laysR_0.at 21 rfl) (by decide) ?_
    exact hv

set_option maxHeartbeats 2000000 in
set_option maxRecDepth 20000 in
theorem g_X9_laysR_0 {G : GG} {j nw nx gn : Nat} {g : Nat → Sh} {c : Nat → Nat → Int} {post : Option AV → AM → Prop} {v : Nat} {w : Nat} {F : Nat → Int}  (hv : SW G (j + 2) mX9_laysR 13 [some (vr (49)), some (vi (((v : Nat) : Int))), some (vi (((w : Nat) : Int))), some (vi (((((60 * v) + w) * 14 : Nat) : Int))), some (vi (0)), none, none, none] [] (S nw nx g, 78 + gn, (wr c 65 F)) B0 post) :
    SW G (j + 2) mX9_laysR 0 [some (vr (49)), some (vi (((v : Nat) : Int))), some (vi (((w : Nat) : Int))), none, none, none, none, none] [] (S nw nx g, 78 + gn, (wr c 65 F)) B0 post := by
  refine sw_bipush (dX9_laysR_0.at 0 rfl) (by decide) ?_
  refine sw_iload_n (dX9_laysR_0.at 1 rfl) rfl rfl ?_
  refine sw_imul (dX9_laysR_0.at 2 rfl) ?_
  refine sw_topI (y := ((60 * v : Nat) : Int)) (by first | rfl | (congr 1)) ?_
  refine sw_iload_n (dX9_laysR_0.at 3 rfl) rfl rfl ?_
  refine sw_iadd (dX9_laysR_0.at 4 rfl) ?_
  refine sw_topI (y := (((60 * v) + w : Nat) : Int)) (by first | rfl | (congr 1)) ?_
  refine sw_bipush (dX9_laysR_0.at 5 rfl) (by decide) ?_
  refine sw_imul (dX9_laysR_0.at 6 rfl) ?_
  refine sw_topI (y := ((((60 * v) + w) * 14 : Nat) : Int)) (by first | rfl | (congr 1)) ?_
  refine sw_istore_n (lo' := [some (vr (49)), some (vi (((v : Nat) : Int))), some (vi (((w : Nat) : Int))), some (vi (((((60 * v) + w) * 14 : Nat) : Int))), none, none, none, none]) (dX9_laysR_0.at 7 rfl) rfl (by decide) rfl ?_
  refine sw_iconst (dX9_laysR_0.at 8 rfl) ?_
  refine sw_istore (lo' := [some (vr (49)), some (vi (((v : Nat) : Int))), some (vi (((w : Nat) : Int))), some (vi (((((60 * v) + w) * 14 : Nat) : Int))), some (vi (0)), none, none, none]) (dX9_laysR_0.at 9 rfl) (by decide) rfl ?_
  exact hv

set_option maxHeartbeats 4000000 in
theorem lp_X9_laysR_104 {G : GG} {j nw nx gn : Nat} {g : Nat → Sh} {c : Nat → Nat → Int} {post : Option AV → AM → Prop} {P : GD} {v w b0 : Nat} {F0 : Nat → Int} (hM : ML c P) (hV : GV P) (hC : GC P) (hB : hBr P) (hR : hRr P) (hL : RLp P F0 w v) (hv : v < gN P) (hw : w < gN P) (hn : v ≠ w) (h0 : 0 < w) (hb : (gD P w).testBit v = true) (hb0 : b0 = (60 * v + w) * 14) (K : ∀ F2 : Nat → Int, RLp P F2 w (v + 1) → post none (S nw nx g, 78 + gn, wr c 65 F2)) : ∀ (k k0 : Nat) (F : Nat → Int), k0 + k = 14 → (∀ q, (q < b0 ∨ b0 + 14 ≤ q) → F q = F0 q) → (∀ i, i < k0 → F (b0 + i) = rF P v w i) → SW G (j + 2) mX9_laysR 104 [some (vr (49)), some (vi (((v : Nat) : Int))), some (vi (((w : Nat) : Int))), some (vi (((b0 : Nat) : Int))), some (vi (((lsb (gE P w) : Nat) : Int))), some (vi (((gS P v (lsb (gE P w)) : Nat) : Int))), some (vi (((gS P w (lsb (gE P w)) : Nat) : Int))), some (vi (((k0 : Nat) : Int)))] [] (S nw nx g, 78 + gn, (wr c 65 F)) B0 post := by
  have h60 := GV_N hV
  obtain ⟨s1, s2, s3, s4⟩ := sb_ok hV hC hB hw h0
  have v1 := hV.2.2.2.1 v _ hv s1
  have w1 := hV.2.2.2.1 w _ hw s1
  intro k
  induction k with
  | zero =>
    intro k0 F hk hF hG
    have K2 := K F (RLp_u h60 hL hv hw (by rw [← hb0]; exact hF) (fun i hi => by rw [← hb0]; exact hG i (by omega)))
    refine g_X9_laysR_104 hM hV hC ?_
    refine ⟨?_, ⟨fun q => ?_, fun q => ⟨?_, ?_, ?_, ⟨fun q => ⟨?_, ?_, ?_, ⟨?_, ?_, ?_, ⟨?_, ?_, ?_, ⟨?_, ?_⟩⟩⟩⟩, fun q => ⟨?_, ?_, ?_, ⟨?_, ?_⟩⟩⟩⟩⟩⟩
    all_goals first | omega | exact K2 | (exfalso; omega)
  | succ k ih =>
    intro k0 F hk hF hG
    have r9 := (hR v w hv hw).2.2.2 k0 (by omega) hn hb
    have e1 := RLp_at hL hb0 hF v1 w1 h60 hw s4 (k := k0) (by omega)
    have e2 := RLp_at1 hL hb0 hF v1 w1 h60 hw s4 (k := k0) (by omega)
    have e3 := RLp_at1 hL hb0 hF hv w1 h60 hw s4 (k := k0) (by omega)
    have e4 := RLp_at hL hb0 hF hv w1 h60 hw s4 (k := k0) (by omega)
    have nx9 := fun z (hz : z = rF P v w k0) => ih (k0 + 1) (u1 F (b0 + k0) z) (by omega) (fun q hq => by rw [u1_ne (by omega)]; exact hF q hq) (fun i hi => by
      by_cases e : i = k0
      · rw [e, u1_eq]; exact hz
      · rw [u1_ne (by omega)]; exact hG i (by omega))
    refine g_X9_laysR_104 hM hV hC ?_
    rw [dsc1, e1, e2, e3, e4]
    refine ⟨?_, ⟨fun q => ?_, fun q => ⟨?_, ?_, ?_, ⟨fun q => ⟨?_, ?_, ?_, ⟨?_, ?_, ?_, ⟨?_, ?_, ?_, ⟨?_, ?_⟩⟩⟩⟩, fun q => ⟨?_, ?_, ?_, ⟨?_, ?_⟩⟩⟩⟩⟩⟩
    all_goals first | omega | assumption | (exfalso; omega) | exact nx9 _ (by rw [r9]; simp only [q, if_true, Bool.false_eq_true, if_false]; try (by_cases e : k0 = 0 <;> simp [e]))
set_option maxHeartbeats 4000000 in
theorem lp_X9_laysR_13 {G : GG} {j nw nx gn : Nat} {g : Nat → Sh} {c : Nat → Nat → Int} {post : Option AV → AM → Prop} {P : GD} {v w b0 : Nat} {F0 : Nat → Int} (hM : ML c P) (hV : GV P) (hC : GC P) (hB : hBr P) (hA : ∀ a b, a < gN P → b < gN P → c 64 (60 * a + b) = bz ((gD P b).testBit a)) (hR : hRr P) (hL : RLp P F0 w v) (hv : v < gN P) (hw : w < gN P) (hb0 : b0 = (60 * v + w) * 14) (K : ∀ F2 : Nat → Int, RLp P F2 w (v + 1) → post none (S nw nx g, 78 + gn, wr c 65 F2)) : ∀ (k k0 : Nat) (F : Nat → Int), k0 + k = 14 → (∀ q, (q < b0 ∨ b0 + 14 ≤ q) → F q = F0 q) → (∀ i, i < k0 → F (b0 + i) = 0) → SW G (j + 2) mX9_laysR 13 [some (vr (49)), some (vi (((v : Nat) : Int))), some (vi (((w : Nat) : Int))), some (vi (((b0 : Nat) : Int))), some (vi (((k0 : Nat) : Int))), none, none, none] [] (S nw nx g, 78 + gn, (wr c 65 F)) B0 post := by
  have h60 := GV_N hV
  have r9 := hR v w hv hw
  intro k
  induction k with
  | zero =>
    intro k0 F hk hF hG
    have e0 : k0 = 14 := by omega
    subst e0
    refine g_X9_laysR_13 hM hV hC hB hA ?_
    by_cases hvw : v = w
    · have K2 := K (u1 F b0 1) (RLp_u h60 hL hv hw (fun q hq => by rw [u1_ne (by omega)]; exact hF q (by omega)) (fun i hi => by
        rw [r9.2.1 i hi hvw, ← hb0]
        by_cases e : i = 0
        · rw [e, if_pos rfl, Nat.add_zero, u1_eq]
        · rw [if_neg e, u1_ne (by omega)]; exact hG i hi))
      refine ⟨?_, ⟨fun q => ⟨?_, ?_, ⟨fun q => ⟨?_, ?_, ⟨fun q => ?_, fun q => ⟨?_, ?_, ⟨fun q => ⟨?_, ?_, ⟨?_, ?_, ⟨?_, ?_, ?_⟩⟩⟩, fun q => ?_⟩⟩⟩⟩, fun q => ⟨?_, ⟨?_, ?_, ⟨fun q => ?_, fun q => ⟨?_, ?_, ⟨fun q => ⟨?_, ?_, ⟨?_, ?_, ⟨?_, ?_, ?_⟩⟩⟩, fun q => ?_⟩⟩⟩⟩⟩⟩⟩, fun q => ⟨?_, ?_⟩⟩⟩
      all_goals first | omega | exact K2 | (exfalso; omega)
    · cases hb : (gD P w).testBit v with
      | false =>
        have K2 := K F (RLp_u h60 hL hv hw (by rw [← hb0]; exact hF) (fun i hi => by rw [r9.2.2.1 i hi hvw hb, ← hb0]; exact hG i hi))
        refine ⟨?_, ⟨fun q => ⟨?_, ?_, ⟨fun q => ⟨?_, ?_, ⟨fun q => ?_, fun q => ⟨?_, ?_, ⟨fun q => ⟨?_, ?_, ⟨?_, ?_, ⟨?_, ?_, ?_⟩⟩⟩, fun q => ?_⟩⟩⟩⟩, fun q => ⟨?_, ⟨?_, ?_, ⟨fun q => ?_, fun q => ⟨?_, ?_, ⟨fun q => ⟨?_, ?_, ⟨?_, ?_, ⟨?_, ?_, ?_⟩⟩⟩, fun q => ?_⟩⟩⟩⟩⟩⟩⟩, fun q => ⟨?_, ?_⟩⟩⟩
        all_goals first | omega | exact K2 | (exfalso; omega) | exact absurd q (by decide)
      | true =>
        have h0 : 0 < w := by
          rcases Nat.eq_zero_or_pos w with e | e
          · rw [e, hB.2.2.1 v hv] at hb
            have := of_decide_eq_true hb
            omega
          · exact e
        obtain ⟨s1, s2, s3, s4⟩ := sb_ok hV hC hB hw h0
        refine ⟨?_, ⟨fun q => ⟨?_, ?_, ⟨fun q => ⟨?_, ?_, ⟨fun q => ?_, fun q => ⟨?_, ?_, ⟨fun q => ⟨?_, ?_, ⟨?_, ?_, ⟨?_, ?_, ?_⟩⟩⟩, fun q => ?_⟩⟩⟩⟩, fun q => ⟨?_, ⟨?_, ?_, ⟨fun q => ?_, fun q => ⟨?_, ?_, ⟨fun q => ⟨?_, ?_, ⟨?_, ?_, ⟨?_, ?_, ?_⟩⟩⟩, fun q => ?_⟩⟩⟩⟩⟩⟩⟩, fun q => ⟨?_, ?_⟩⟩⟩
        all_goals first | omega | assumption | (exfalso; omega) | exact absurd q (by decide) | exact lp_X9_laysR_104 hM hV hC hB hR hL hv hw hvw h0 hb hb0 K 14 0 F (by omega) hF (fun i hi => by omega)
  | succ k ih =>
    intro k0 F hk hF hG
    have nx9 := ih (k0 + 1) (u1 F (b0 + k0) 0) (by omega) (fun q hq => by rw [u1_ne (by omega)]; exact hF q hq) (fun i hi => by
      by_cases e : i = k0
      · rw [e, u1_eq]
      · rw [u1_ne (by omega)]; exact hG i (by omega))
    refine g_X9_laysR_13 hM hV hC hB hA ?_
    refine ⟨?_, ⟨fun q => ⟨?_, ?_, ⟨fun q => ⟨?_, ?_, ⟨fun q => ?_, fun q => ⟨?_, ?_, ⟨fun q => ⟨?_, ?_, ⟨?_, ?_, ⟨?_, ?_, ?_⟩⟩⟩, fun q => ?_⟩⟩⟩⟩, fun q => ⟨?_, ⟨?_, ?_, ⟨fun q => ?_, fun q => ⟨?_, ?_, ⟨fun q => ⟨?_, ?_, ⟨?_, ?_, ⟨?_, ?_, ?_⟩⟩⟩, fun q => ?_⟩⟩⟩⟩⟩⟩⟩, fun q => ⟨?_, ?_⟩⟩⟩
    all_goals first | omega | exact nx9 | (exfalso; omega)
theorem c_X9_laysR {G : GG} {j nw nx gn : Nat} {g : Nat → Sh} {c : Nat → Nat → Int} {post : Option AV → AM → Prop} {P : GD} {v w : Nat} {F : Nat → Int} (hM : ML c P) (hV : GV P) (hC : GC P) (hB : hBr P) (hA : ∀ a b, a < gN P → b < gN P → c 64 (60 * a + b) = bz ((gD P b).testBit a)) (hR : hRr P) (hL : RLp P F w v) (hv : v < gN P) (hw : w < gN P) (K : ∀ F2 : Nat → Int, RLp P F2 w (v + 1) → post none (S nw nx g, 78 + gn, wr c 65 F2)) : SM G (j + 3) mX9_laysR [vr 49, vi ((v : Nat) : Int), vi ((w : Nat) : Int)] (S nw nx g, 78 + gn, wr c 65 F) 0 0 post := by
  refine sm_of wX9_laysR rfl (Nat.le_of_ble_eq_true rfl) ?_
  exact g_X9_laysR_0 (lp_X9_laysR_13 hM hV hC hB hA hR hL hv hw rfl K 14 0 F (by omega) (fun q _ => rfl) (fun i hi => by omega))

