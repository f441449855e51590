theorem PD_SC {P : GD} {T : PT} {c c2 : Nat → Nat → Int} (h : PD P T c) (hs : SC c c2) : PD P T c2 := PD_same h (hs.1 64 (by omega)) (hs.1 65 (by omega)) (hs.1 66 (by omega))
set_option maxHeartbeats 2000000 in
set_option maxRecDepth 20000 in
theorem g_X9_arePair_0 {G : GG} {j nw nx gn : Nat} {g : Nat → Sh} {c : Nat → Nat → Int} {post : Option AV → AM → Prop} {x : Int} {y : Int} {P : GD} {T : PT} (hM : ML c P) (hV : GV P) (hC : GC P) (hG : GP P T) (hR : RR P T c)  (hv : (-2147483648 ≤ x ∧ x < 2147483648) ∧ ((((decide (0 ≤ x ∧ x < (gN P : Int))) = false) → post (some (vi (0))) (S nw nx g, 78 + gn, c)) ∧ (((decide (0 ≤ x ∧ x < (gN P : Int))) = true) → (-2147483648 ≤ y ∧ y < 2147483648) ∧ ((((decide (0 ≤ y ∧ y < (gN P : Int))) = true) → (∀ c_1 : Nat → Nat → Int, (SD c c_1 ∧ RD P T c_1) → post (some (vi (1))) (S nw nx g, 78 + gn, c_1))) ∧ (((decide (0 ≤ y ∧ y < (gN P : Int))) = false) → post (some (vi (0))) (S nw nx g, 78 + gn, c)))))) :
    SW G (j + 4) mX9_arePair 0 [some (vr (49)), some (vi (x)), some (vi (y))] [] (S nw nx g, 78 + gn, c) B0 post := by
  refine sw_aload_n (dX9_arePair.at 0 rfl) rfl rfl ?_
  refine sw_iload_n (dX9_arePair.at 1 rfl) rfl rfl ?_
  refine sw_callV (B' := B0) (As := [vi (x)]) (mc := 0) (ms := 0) (dX9_arePair.at 2 rfl) lk_X9_251 (S_lt 49 (by decide)) (S_49 nw nx g) rfl rfl (Nat.le_of_ble_eq_true rfl) rfl (Nat.le_refl _) (Nat.le_refl _) ?_
  refine c_X9_isElement (x := x) (j := j + 2) hM hV hv.1 ?_
  replace hv := hv.2
  refine sw_if_eq (tgt := 16) (dX9_arePair.at 3 rfl) (by decide) (bz_rng _) (fun q => ?_) (fun q => ?_)
  · replace hv := hv.1 (bz_0 q)
    refine sw_iconst (dX9_arePair.at 8 rfl) ?_
    exact sw_zret (dX9_arePair.at 9 rfl) rfl (by decide) (Nat.le_refl _) (Nat.le_refl _) hv
  · replace hv := hv.2 (bz_n0 q)
    refine sw_aload_n (dX9_arePair.at 4 rfl) rfl rfl ?_
    refine sw_iload_n (dX9_arePair.at 5 rfl) rfl rfl ?_
    refine sw_callV (B' := B0) (As := [vi (y)]) (mc := 0) (ms := 0) (dX9_arePair.at 6 rfl) lk_X9_251 (S_lt 49 (by decide)) (S_49 nw nx g) rfl rfl (Nat.le_of_ble_eq_true rfl) rfl (Nat.le_refl _) (Nat.le_refl _) ?_
    refine c_X9_isElement (x := y) (j := j + 2) hM hV hv.1 ?_
    replace hv := hv.2
    refine sw_if_ne (tgt := 18) (dX9_arePair.at 7 rfl) (by decide) (bz_rng _) (fun q => ?_) (fun q => ?_)
    · replace hv := hv.1 (bz_1 q)
      refine sw_aload_n (dX9_arePair.at 10 rfl) rfl rfl ?_
      refine sw_callV (B' := B0) (As := []) (mc := 0) (ms := 0) (dX9_arePair.at 11 rfl) lk_X9_305 (S_lt 49 (by decide)) (S_49 nw nx g) rfl rfl (Nat.le_of_ble_eq_true rfl) rfl (Nat.le_refl _) (Nat.le_refl _) ?_
      refine c_X9_laysPairs  (j := j + 0) hM hV hC hG hR (fun c_1 h_1 => ?_)
      replace hv := hv c_1 h_1
      refine sw_iconst (dX9_arePair.at 12 rfl) ?_
      exact sw_zret (dX9_arePair.at 13 rfl) rfl (by decide) (Nat.le_refl _) (Nat.le_refl _) hv
    · replace hv := hv.2 (bz_n1 q)
      refine sw_iconst (dX9_arePair.at 8 rfl) ?_
      exact sw_zret (dX9_arePair.at 9 rfl) rfl (by decide) (Nat.le_refl _) (Nat.le_refl _) hv

set_option maxHeartbeats 2000000 in
theorem c_X9_arePairG {G : GG} {j nw nx gn : Nat} {g : Nat → Sh} {c : Nat → Nat → Int} {post : Option AV → AM → Prop} {P : GD} {T : PT} {x y : Int} (hM : ML c P) (hV : GV P) (hC : GC P) (hG : GP P T) (hR : RR P T c) (p1 : -2147483648 ≤ x ∧ x < 2147483648) (p2 : -2147483648 ≤ y ∧ y < 2147483648) (K : ∀ c2 : Nat → Nat → Int, (SD c c2 ∧ RR P T c2) → post (some (vi (bz (decide ((0 ≤ x ∧ x < (gN P : Int)) ∧ 0 ≤ y ∧ y < (gN P : Int)))))) (S nw nx g, 78 + gn, c2)) : SM G (j + 5) mX9_arePair [vr 49, vi x, vi y] (S nw nx g, 78 + gn, c) 0 0 post := by
  refine sm_of wX9_arePair rfl (Nat.le_of_ble_eq_true rfl) ?_
  have h60 := GV_N hV
  refine g_X9_arePair_0 hM hV hC hG hR ?_
  by_cases hv : (0 ≤ x ∧ x < (gN P : Int)) ∧ 0 ≤ y ∧ y < (gN P : Int)
  · rw [decide_eq_true hv] at K
    refine ⟨?_, ⟨fun q => ?_, fun q => ⟨?_, ⟨fun q => fun c_1 h_1 => ?_, fun q => ?_⟩⟩⟩⟩
    all_goals (try simp only [decide_eq_true_eq, decide_eq_false_iff_not] at *)
    all_goals first | omega | (exfalso; omega) | exact K _ ⟨h_1.1, Or.inr h_1.2⟩
  · rw [decide_eq_false hv] at K
    refine ⟨?_, ⟨fun q => ?_, fun q => ⟨?_, ⟨fun q => fun c_1 h_1 => ?_, fun q => ?_⟩⟩⟩⟩
    all_goals (try simp only [decide_eq_true_eq, decide_eq_false_iff_not] at *)
    all_goals first | omega | exact K _ ⟨SD_rf, hR⟩ | (exfalso; omega)
set_option maxHeartbeats 2000000 in
theorem c_X9_arePairY {G : GG} {j nw nx gn : Nat} {g : Nat → Sh} {c : Nat → Nat → Int} {post : Option AV → AM → Prop} {P : GD} {T : PT} {x y : Nat} (hM : ML c P) (hV : GV P) (hC : GC P) (hG : GP P T) (hR : RR P T c) (p1 : x < gN P) (p2 : y < gN P) (K : ∀ c2 : Nat → Nat → Int, (SD c c2 ∧ RD P T c2) → post (some (vi (bz true))) (S nw nx g, 78 + gn, c2)) : SM G (j + 5) mX9_arePair [vr 49, vi ((x : Nat) : Int), vi ((y : Nat) : Int)] (S nw nx g, 78 + gn, c) 0 0 post := by
  refine sm_of wX9_arePair rfl (Nat.le_of_ble_eq_true rfl) ?_
  have h60 := GV_N hV
  refine g_X9_arePair_0 hM hV hC hG hR ?_
  refine ⟨?_, ⟨fun q => ?_, fun q => ⟨?_, ⟨fun q => fun c_1 h_1 => ?_, fun q => ?_⟩⟩⟩⟩
  all_goals (try simp only [decide_eq_true_eq, decide_eq_false_iff_not] at *)
  all_goals first | omega | (exfalso; omega) | exact K _ h_1

set_option maxHeartbeats 2000000 in
set_option maxRecDepth 20000 in
theorem g_X9_areBelow_0 {G : GG} {j nw nx gn : Nat} {g : Nat → Sh} {c : Nat → Nat → Int} {post : Option AV → AM → Prop} {v : Nat} {w : Nat} {P : GD} {T : PT} (hM : ML c P) (hV : GV P) (hC : GC P) (hD : PD P T c)  (hv : (v < gN P) ∧ (w < gN P) ∧ (post (some (vi (bz ((gD P w).testBit v)))) (S nw nx g, 78 + gn, c))) :
    SW G (j + 0) mX9_areBelow 0 [some (vr (49)), some (vi (((v : Nat) : Int))), some (vi (((w : Nat) : Int)))] [] (S nw nx g, 78 + gn, c) B0 post := by
  refine sw_aload_n (dX9_areBelow.at 0 rfl) rfl rfl ?_
  refine sw_getR (dX9_areBelow.at 1 rfl) fp_X9_56 (S_lt 49 (by decide)) (S_49 nw nx g) rfl rfl ?_
  refine sw_bipush (dX9_areBelow.at 2 rfl) (by decide) ?_
  refine sw_iload_n (dX9_areBelow.at 3 rfl) rfl rfl ?_
  refine sw_imul (dX9_areBelow.at 4 rfl) ?_
  refine sw_topI (y := ((60 * v : Nat) : Int)) (by first | rfl | (congr 1)) ?_
  refine sw_iload_n (dX9_areBelow.at 5 rfl) rfl rfl ?_
  refine sw_iadd (dX9_areBelow.at 6 rfl) ?_
  refine sw_topI (y := (((60 * v) + w : Nat) : Int)) (by first | rfl | (congr 1)) ?_
  refine sw_zaldN ((60 * v) + w) (w := bz ((gD P w).testBit v)) (dX9_areBelow.at 7 rfl) (S_lt 64 (by decide)) (S_64 nw nx g) (by decide) (by have := GV_N hV; omega) (hD.1 _ _ hv.1 hv.2.1) ?_
  replace hv := hv.2.2
  exact sw_zret (dX9_areBelow.at 8 rfl) rfl (bz_01 _) (Nat.le_refl _) (Nat.le_refl _) hv

theorem c_X9_areBelow {G : GG} {j nw nx gn : Nat} {g : Nat → Sh} {c : Nat → Nat → Int} {post : Option AV → AM → Prop} {P : GD} {T : PT} {v w : Nat} (hM : ML c P) (hV : GV P) (hC : GC P) (hD : PD P T c) (p1 : v < gN P) (p2 : w < gN P) (K : post (some (vi (bz ((gD P w).testBit v)))) (S nw nx g, 78 + gn, c)) : SM G (j + 1) mX9_areBelow [vr 49, vi ((v : Nat) : Int), vi ((w : Nat) : Int)] (S nw nx g, 78 + gn, c) 0 0 post := by
  refine sm_of wX9_areBelow rfl (Nat.le_of_ble_eq_true rfl) ?_
  refine g_X9_areBelow_0 hM hV hC hD ?_
  refine ⟨?_, ?_, ?_⟩
  all_goals first | assumption | exact K
theorem c_X9_rAtD {G : GG} {j nw nx gn : Nat} {g : Nat → Sh} {c : Nat → Nat → Int} {post : Option AV → AM → Prop} {P : GD} {T : PT} {v w k : Nat} (hM : ML c P) (hV : GV P) (hC : GC P) (hD : PD P T c) (p1 : v < gN P) (p2 : w < gN P) (p3 : k < 2147483648) (K : post (some (vi (if k < 14 then rF P v w k else 0))) (S nw nx g, 78 + gn, c)) : SM G (j + 2) mX9_rAt [vr 49, vi ((v : Nat) : Int), vi ((w : Nat) : Int), vi ((k : Nat) : Int)] (S nw nx g, 78 + gn, c) 0 0 post := by
  have h60 := GV_N hV
  refine c_X9_rAt (by omega) (by omega) (by omega) ?_
  have e : rAtF (c 65) 14 v w (k : Int) = if k < 14 then rF P v w k else 0 := by
    rw [rAtF]
    by_cases h : k < 14
    · rw [if_pos (by omega), if_pos h, Int.toNat_natCast]; exact hD.2.1 v w k p1 p2 h
    · rw [if_neg (by omega), if_neg h]
  rw [e]; exact K
theorem c_X9_pAtD {G : GG} {j nw nx gn : Nat} {g : Nat → Sh} {c : Nat → Nat → Int} {post : Option AV → AM → Prop} {P : GD} {T : PT} {v w k : Nat} (hM : ML c P) (hV : GV P) (hC : GC P) (hD : PD P T c) (p1 : v < gN P) (p2 : w < gN P) (p3 : k < 2147483648) (K : post (some (vi (if k < 7 then T v w k else 0))) (S nw nx g, 78 + gn, c)) : SM G (j + 2) mX9_pAt [vr 49, vi ((v : Nat) : Int), vi ((w : Nat) : Int), vi ((k : Nat) : Int)] (S nw nx g, 78 + gn, c) 0 0 post := by
  have h60 := GV_N hV
  refine c_X9_pAt (by omega) (by omega) (by omega) ?_
  have e : rAtF (c 66) 7 v w (k : Int) = if k < 7 then T v w k else 0 := by
    rw [rAtF]
    by_cases h : k < 7
    · rw [if_pos (by omega), if_pos h, Int.toNat_natCast]; exact hD.2.2 v w k p1 p2 h
    · rw [if_neg (by omega), if_neg h]
  rw [e]; exact K
theorem T_7 {P : GD} {T : PT} (hV : GV P) (hG : GP P T) {v w : Nat} (hv : v < gN P) (hw : w < gN P) : T v w 7 = 0 := by
  have p9 := hG.2.2 v w hv hw
  have l9 := (hV.2.2.1 w hw).1
  by_cases e : v = w
  · rw [p9.1 7 (by omega) e, if_neg (by decide)]
  · cases hb : (gD P w).testBit v with
    | false => exact p9.2.1 7 (by omega) e hb
    | true => rw [p9.2.2.2 7 (by omega) e hb, if_neg (by omega)]
theorem T_78 {P : GD} {T : PT} (hV : GV P) (hG : GP P T) {v w k : Nat} (hv : v < gN P) (hw : w < gN P) : (if k < 7 then T v w k else 0) = (if k < 8 then T v w k else 0) := by
  by_cases h : k < 7
  · rw [if_pos h, if_pos (by omega)]
  · rw [if_neg h]
    by_cases h2 : k < 8
    · rw [if_pos h2, show k = 7 by omega, T_7 hV hG hv hw]
    · rw [if_neg h2]
theorem r_14 {P : GD} {T : PT} (hG : GP P T) {v w k : Nat} (hv : v < gN P) (hw : w < gN P) : (if k < 14 then rF P v w k else 0) = rF P v w k := by
  by_cases h : k < 14
  · rw [if_pos h]
  · rw [if_neg h]
    by_cases h2 : k < 16
    · exact ((hG.2.1 v w hv hw).1 k (by omega) h2).symm
    · rw [rF, if_neg h2]

set_option maxHeartbeats 2000000 in
set_option maxRecDepth 20000 in
theorem g_X9_below_0n {G : GG} {j nw nx gn : Nat} {g : Nat → Sh} {c : Nat → Nat → Int} {post : Option AV → AM → Prop} {x : Nat} {y : Nat} {P : GD} {T : PT} (hM : ML c P) (hV : GV P) (hC : GC P) (hG : GP P T) (hR : RR P T c)  (hv : (x < gN P) ∧ (y < gN P) ∧ (∀ c_1 : Nat → Nat → Int, (SD c c_1 ∧ RD P T c_1) → (x < gN P) ∧ (y < gN P) ∧ (((((gD P y).testBit x) = false) → post (some (vi (0))) (S nw nx g, 78 + gn, c_1)) ∧ ((((gD P y).testBit x) = true) → post (some (vi (1))) (S nw nx g, 78 + gn, c_1))))) :
    SW G (j + 5) mX9_below 0 [some (vr (49)), some (vi (((x : Nat) : Int))), some (vi (((y : Nat) : Int)))] [] (S nw nx g, 78 + gn, c) B0 post := by
  refine sw_aload_n (dX9_below.at 0 rfl) rfl rfl ?_
  refine sw_iload_n (dX9_below.at 1 rfl) rfl rfl ?_
  refine sw_iload_n (dX9_below.at 2 rfl) rfl rfl ?_
  refine sw_callV (B' := B0) (As := [vi (((x : Nat) : Int)), vi (((y : Nat) : Int))]) (mc := 0) (ms := 0) (dX9_below.at 3 rfl) lk_X9_308 (S_lt 49 (by decide)) (S_49 nw nx g) rfl rfl (Nat.le_of_ble_eq_true rfl) rfl (Nat.le_refl _) (Nat.le_refl _) ?_
  refine c_X9_arePairY (x := x) (y := y) (j := j + 0) hM hV hC hG hR hv.1 hv.2.1 (fun c_1 h_1 => ?_)
  replace hv := hv.2.2 c_1 h_1
  refine sw_if_ne (tgt := 14) (dX9_below.at 4 rfl) (by decide) (by decide) (fun q => ?_) (fun q => ?_)
  · clear q
    refine sw_aload_n (dX9_below.at 7 rfl) rfl rfl ?_
    refine sw_iload_n (dX9_below.at 8 rfl) rfl rfl ?_
    refine sw_iload_n (dX9_below.at 9 rfl) rfl rfl ?_
    refine sw_callV (B' := B0) (As := [vi (((x : Nat) : Int)), vi (((y : Nat) : Int))]) (mc := 0) (ms := 0) (dX9_below.at 10 rfl) lk_X9_311 (S_lt 49 (by decide)) (S_49 nw nx g) rfl rfl (Nat.le_of_ble_eq_true rfl) rfl (Nat.le_refl _) (Nat.le_refl _) ?_
    refine c_X9_areBelow (v := x) (w := y) (j := j + 4) (ML_SD hM (SD_tr SD_rf h_1.1)) hV hC h_1.2.2 hv.1 hv.2.1 ?_
    replace hv := hv.2.2
    refine sw_if_eq (tgt := 27) (dX9_below.at 11 rfl) (by decide) (bz_rng _) (fun q => ?_) (fun q => ?_)
    · replace hv := hv.1 (bz_0 q)
      refine sw_iconst (dX9_below.at 14 rfl) ?_
      exact sw_iret (dX9_below.at 15 rfl) rfl (Nat.le_refl _) (Nat.le_refl _) hv
    · replace hv := hv.2 (bz_n0 q)
      refine sw_iconst (dX9_below.at 12 rfl) ?_
      refine sw_goto (tgt := 28) (dX9_below.at 13 rfl) (by decide) ?_
      exact sw_iret (dX9_below.at 15 rfl) rfl (Nat.le_refl _) (Nat.le_refl _) hv
  · exact absurd q (by decide)

set_option maxHeartbeats 2000000 in
set_option maxRecDepth 20000 in
theorem g_X9_below_0 {G : GG} {j nw nx gn : Nat} {g : Nat → Sh} {c : Nat → Nat → Int} {post : Option AV → AM → Prop} {x : Int} {y : Int} {P : GD} {T : PT} (hM : ML c P) (hV : GV P) (hC : GC P) (hG : GP P T) (hR : RR P T c)  (hv : (-2147483648 ≤ x ∧ x < 2147483648) ∧ (-2147483648 ≤ y ∧ y < 2147483648) ∧ (∀ c_1 : Nat → Nat → Int, (SD c c_1 ∧ RR P T c_1) → (((decide ((0 ≤ x ∧ x < (gN P : Int)) ∧ 0 ≤ y ∧ y < (gN P : Int))) = true) → SW G (j + 5) mX9_below 17 [some (vr (49)), some (vi (x)), some (vi (y))] [vi (y), vi (x), vr (49)] (S nw nx g, 78 + gn, c_1) B0 post) ∧ (((decide ((0 ≤ x ∧ x < (gN P : Int)) ∧ 0 ≤ y ∧ y < (gN P : Int))) = false) → post (some (vi ((-2)))) (S nw nx g, 78 + gn, c_1)))) :
    SW G (j + 5) mX9_below 0 [some (vr (49)), some (vi (x)), some (vi (y))] [] (S nw nx g, 78 + gn, c) B0 post := by
  refine sw_aload_n (dX9_below.at 0 rfl) rfl rfl ?_
  refine sw_iload_n (dX9_below.at 1 rfl) rfl rfl ?_
  refine sw_iload_n (dX9_below.at 2 rfl) rfl rfl ?_
  refine sw_callV (B' := B0) (As := [vi (x), vi (y)]) (mc := 0) (ms := 0) (dX9_below.at 3 rfl) lk_X9_308 (S_lt 49 (by decide)) (S_49 nw nx g) rfl rfl (Nat.le_of_ble_eq_true rfl) rfl (Nat.le_refl _) (Nat.le_refl _) ?_
  refine c_X9_arePairG (x := x) (y := y) (j := j + 0) hM hV hC hG hR hv.1 hv.2.1 (fun c_1 h_1 => ?_)
  replace hv := hv.2.2 c_1 h_1
  refine sw_if_ne (tgt := 14) (dX9_below.at 4 rfl) (by decide) (bz_rng _) (fun q => ?_) (fun q => ?_)
  · replace hv := hv.1 (bz_1 q)
    refine sw_aload_n (dX9_below.at 7 rfl) rfl rfl ?_
    refine sw_iload_n (dX9_below.at 8 rfl) rfl rfl ?_
    refine sw_iload_n (dX9_below.at 9 rfl) rfl rfl ?_
    exact hv
  · replace hv := hv.2 (bz_n1 q)
    refine sw_bipush (dX9_below.at 5 rfl) (by decide) ?_
    refine sw_goto (tgt := 28) (dX9_below.at 6 rfl) (by decide) ?_
    exact sw_iret (dX9_below.at 15 rfl) rfl (Nat.le_refl _) (Nat.le_refl _) hv

set_option maxHeartbeats 4000000 in
theorem c_X9_below {G : GG} {j nw nx gn : Nat} {g : Nat → Sh} {c : Nat → Nat → Int} {post : Option AV → AM → Prop} {P : GD} {T : PT} {x y : Int} (hM : ML c P) (hV : GV P) (hC : GC P) (hG : GP P T) (hR : RR P T c) (p1 : -2147483648 ≤ x ∧ x < 2147483648) (p2 : -2147483648 ≤ y ∧ y < 2147483648) (K : ∀ c2 : Nat → Nat → Int, (SD c c2 ∧ RR P T c2) → post (some (vi (q_below P x y))) (S nw nx g, 78 + gn, c2)) : SM G (j + 6) mX9_below [vr (49), vi (x), vi (y)] (S nw nx g, 78 + gn, c) 0 0 post := by
  refine sm_of wX9_below rfl (Nat.le_of_ble_eq_true rfl) ?_
  have hN60 := GV_N hV
  have hR5 := GV_R hV
  by_cases hv : (0 ≤ x ∧ x < (gN P : Int)) ∧ 0 ≤ y ∧ y < (gN P : Int)
  · obtain ⟨x, rfl⟩ : ∃ n : Nat, x = (n : Int) := ⟨x.toNat, by omega⟩
    obtain ⟨y, rfl⟩ : ∃ n : Nat, y = (n : Int) := ⟨y.toNat, by omega⟩
    have e : q_below P ((x : Nat) : Int) ((y : Nat) : Int) = bz ((gD P y).testBit x) := by
      rw [q_below, if_pos hv]
      simp only [Int.toNat_natCast]
    rw [e] at K
    have K1 : ∀ (z : Int) (c2 : Nat → Nat → Int), ((SD c c2 ∧ RR P T c2)) → z = (bz ((gD P y).testBit x)) → post (some (vi z)) (S nw nx g, 78 + gn, c2) := fun z c2 h e9 => e9 ▸ K c2 h
    have hx : x < gN P := by omega
    have fx := hV.2.2.1 x hx
    have hy : y < gN P := by omega
    have fy := hV.2.2.1 y hy
    refine g_X9_below_0n hM hV hC hG hR ?_
    refine ⟨?_, ?_, fun c_1 h_1 => ⟨?_, ?_, ⟨fun q => ?_, fun q => ?_⟩⟩⟩
    all_goals first | omega | assumption | (exfalso; simp only [decide_eq_true_eq, decide_eq_false_iff_not] at *; omega) | exact K _ (by first | exact ⟨SD_rf, hR⟩ | exact ⟨h_1.1, Or.inr h_1.2⟩ | assumption | exact ⟨SD_tr h_1.1 (SD_SC h_2), Or.inr (RD_SC h_1.2 h_2)⟩ | exact ⟨SD_tr h_1.1 (SD_SC (SC_tr h_2 h_3)), Or.inr (RD_SC h_1.2 (SC_tr h_2 h_3))⟩) | (refine K1 _ _ (by first | exact ⟨SD_rf, hR⟩ | exact ⟨h_1.1, Or.inr h_1.2⟩ | assumption | exact ⟨SD_tr h_1.1 (SD_SC h_2), Or.inr (RD_SC h_1.2 h_2)⟩ | exact ⟨SD_tr h_1.1 (SD_SC (SC_tr h_2 h_3)), Or.inr (RD_SC h_1.2 (SC_tr h_2 h_3))⟩) ?_; first | rfl | (simp [bz, *]; done) | (split <;> first | rfl | omega))
  · have e : q_below P x y = (-2) := by rw [q_below, if_neg hv]
    rw [e] at K
    have K1 : ∀ (z : Int) (c2 : Nat → Nat → Int), ((SD c c2 ∧ RR P T c2)) → z = ((-2)) → post (some (vi z)) (S nw nx g, 78 + gn, c2) := fun z c2 h e9 => e9 ▸ K c2 h
    refine g_X9_below_0 hM hV hC hG hR ?_
    refine ⟨?_, ?_, fun c_1 h_1 => ⟨fun q => ?_, fun q => ?_⟩⟩
    all_goals first | omega | assumption | (exfalso; simp only [decide_eq_true_eq, decide_eq_false_iff_not] at *; omega) | exact K _ (by first | exact ⟨SD_rf, hR⟩ | exact ⟨h_1.1, Or.inr h_1.2⟩ | assumption | exact ⟨SD_tr h_1.1 (SD_SC h_2), Or.inr (RD_SC h_1.2 h_2)⟩ | exact ⟨SD_tr h_1.1 (SD_SC (SC_tr h_2 h_3)), Or.inr (RD_SC h_1.2 (SC_tr h_2 h_3))⟩) | (refine K1 _ _ (by first | exact ⟨SD_rf, hR⟩ | exact ⟨h_1.1, Or.inr h_1.2⟩ | assumption | exact ⟨SD_tr h_1.1 (SD_SC h_2), Or.inr (RD_SC h_1.2 h_2)⟩ | exact ⟨SD_tr h_1.1 (SD_SC (SC_tr h_2 h_3)), Or.inr (RD_SC h_1.2 (SC_tr h_2 h_3))⟩) ?_; first | rfl | (simp [bz, *]; done) | (split <;> first | rfl | omega))

set_option maxHeartbeats 2000000 in
set_option maxRecDepth 20000 in
theorem g_X9_r_0n {G : GG} {j nw nx gn : Nat} {g : Nat → Sh} {c : Nat → Nat → Int} {post : Option AV → AM → Prop} {x : Nat} {y : Nat} {k : Nat} {P : GD} {T : PT} (hM : ML c P) (hV : GV P) (hC : GC P) (hG : GP P T) (hR : RR P T c)  (hv : (x < gN P) ∧ (y < gN P) ∧ (∀ c_1 : Nat → Nat → Int, (SD c c_1 ∧ RD P T c_1) → (k < 2147483648) ∧ (((((k : Nat) : Int) < 0) → post (some (vi ((-1000000)))) (S nw nx g, 78 + gn, c_1)) ∧ ((¬ (((k : Nat) : Int) < 0)) → (x < gN P) ∧ (y < gN P) ∧ (k < 2147483648) ∧ (post (some (vi ((if k < 14 then rF P x y k else 0)))) (S nw nx g, 78 + gn, c_1)))))) :
    SW G (j + 5) mX9_r 0 [some (vr (49)), some (vi (((x : Nat) : Int))), some (vi (((y : Nat) : Int))), some (vi (((k : Nat) : Int)))] [] (S nw nx g, 78 + gn, c) B0 post := by
  refine sw_aload_n (dX9_r.at 0 rfl) rfl rfl ?_
  refine sw_iload_n (dX9_r.at 1 rfl) rfl rfl ?_
  refine sw_iload_n (dX9_r.at 2 rfl) rfl rfl ?_
  refine sw_callV (B' := B0) (As := [vi (((x : Nat) : Int)), vi (((y : Nat) : Int))]) (mc := 0) (ms := 0) (dX9_r.at 3 rfl) lk_X9_308 (S_lt 49 (by decide)) (S_49 nw nx g) rfl rfl (Nat.le_of_ble_eq_true rfl) rfl (Nat.le_refl _) (Nat.le_refl _) ?_
  refine c_X9_arePairY (x := x) (y := y) (j := j + 0) hM hV hC hG hR hv.1 hv.2.1 (fun c_1 h_1 => ?_)
  replace hv := hv.2.2 c_1 h_1
  refine sw_if_eq (tgt := 23) (dX9_r.at 4 rfl) (by decide) (by decide) (fun q => ?_) (fun q => ?_)
  · exact absurd q (by decide)
  · clear q
    refine sw_iload_n (dX9_r.at 5 rfl) rfl rfl ?_
    refine sw_if_lt (tgt := 23) (dX9_r.at 6 rfl) (by decide) (nrng hv.1) (fun q => ?_) (fun q => ?_)
    · replace hv := hv.2.1 q
      refine sw_ldcw (z := (-1000000)) (dX9_r.at 13 rfl) kc_X9_318 (by decide) ?_
      exact sw_iret (dX9_r.at 14 rfl) rfl (Nat.le_refl _) (Nat.le_refl _) hv
    · replace hv := hv.2.2 q
      refine sw_aload_n (dX9_r.at 7 rfl) rfl rfl ?_
      refine sw_iload_n (dX9_r.at 8 rfl) rfl rfl ?_
      refine sw_iload_n (dX9_r.at 9 rfl) rfl rfl ?_
      refine sw_iload_n (dX9_r.at 10 rfl) rfl rfl ?_
      refine sw_callV (B' := B0) (As := [vi (((x : Nat) : Int)), vi (((y : Nat) : Int)), vi (((k : Nat) : Int))]) (mc := 0) (ms := 0) (dX9_r.at 11 rfl) lk_X9_286 (S_lt 49 (by decide)) (S_49 nw nx g) rfl rfl (Nat.le_of_ble_eq_true rfl) rfl (Nat.le_refl _) (Nat.le_refl _) ?_
      refine c_X9_rAtD (v := x) (w := y) (k := k) (j := j + 3) (ML_SD hM (SD_tr SD_rf h_1.1)) hV hC h_1.2.2 hv.1 hv.2.1 hv.2.2.1 ?_
      replace hv := hv.2.2.2
      refine sw_goto (tgt := 26) (dX9_r.at 12 rfl) (by decide) ?_
      exact sw_iret (dX9_r.at 14 rfl) rfl (Nat.le_refl _) (Nat.le_refl _) hv

set_option maxHeartbeats 2000000 in
set_option maxRecDepth 20000 in
theorem g_X9_r_0 {G : GG} {j nw nx gn : Nat} {g : Nat → Sh} {c : Nat → Nat → Int} {post : Option AV → AM → Prop} {x : Int} {y : Int} {k : Int} {P : GD} {T : PT} (hM : ML c P) (hV : GV P) (hC : GC P) (hG : GP P T) (hR : RR P T c)  (hv : (-2147483648 ≤ x ∧ x < 2147483648) ∧ (-2147483648 ≤ y ∧ y < 2147483648) ∧ (∀ c_1 : Nat → Nat → Int, (SD c c_1 ∧ RR P T c_1) → (((decide ((0 ≤ x ∧ x < (gN P : Int)) ∧ 0 ≤ y ∧ y < (gN P : Int))) = false) → post (some (vi ((-1000000)))) (S nw nx g, 78 + gn, c_1)) ∧ (((decide ((0 ≤ x ∧ x < (gN P : Int)) ∧ 0 ≤ y ∧ y < (gN P : Int))) = true) → (-2147483648 ≤ k ∧ k < 2147483648) ∧ (((k < 0) → post (some (vi ((-1000000)))) (S nw nx g, 78 + gn, c_1)) ∧ ((¬ (k < 0)) → SW G (j + 5) mX9_r 17 [some (vr (49)), some (vi (x)), some (vi (y)), some (vi (k))] [vi (k), vi (y), vi (x), vr (49)] (S nw nx g, 78 + gn, c_1) B0 post))))) :
    SW G (j + 5) mX9_r 0 [some (vr (49)), some (vi (x)), some (vi (y)), some (vi (k))] [] (S nw nx g, 78 + gn, c) B0 post := by
  refine sw_aload_n (dX9_r.at 0 rfl) rfl rfl ?_
  refine sw_iload_n (dX9_r.at 1 rfl) rfl rfl ?_
  refine sw_iload_n (dX9_r.at 2 rfl) rfl rfl ?_
  refine sw_callV (B' := B0) (As := [vi (x), vi (y)]) (mc := 0) (ms := 0) (dX9_r.at 3 rfl) lk_X9_308 (S_lt 49 (by decide)) (S_49 nw nx g) rfl rfl (Nat.le_of_ble_eq_true rfl) rfl (Nat.le_refl _) (Nat.le_refl _) ?_
  refine c_X9_arePairG (x := x) (y := y) (j := j + 0) hM hV hC hG hR hv.1 hv.2.1 (fun c_1 h_1 => ?_)
  replace hv := hv.2.2 c_1 h_1
  refine sw_if_eq (tgt := 23) (dX9_r.at 4 rfl) (by decide) (bz_rng _) (fun q => ?_) (fun q => ?_)
  · replace hv := hv.1 (bz_0 q)
    refine sw_ldcw (z := (-1000000)) (dX9_r.at 13 rfl) kc_X9_318 (by decide) ?_
    exact sw_iret (dX9_r.at 14 rfl) rfl (Nat.le_refl _) (Nat.le_refl _) hv
  · replace hv := hv.2 (bz_n0 q)
    refine sw_iload_n (dX9_r.at 5 rfl) rfl rfl ?_
    refine sw_if_lt (tgt := 23) (dX9_r.at 6 rfl) (by decide) hv.1 (fun q => ?_) (fun q => ?_)
    · replace hv := hv.2.1 q
      refine sw_ldcw (z := (-1000000)) (dX9_r.at 13 rfl) kc_X9_318 (by decide) ?_
      exact sw_iret (dX9_r.at 14 rfl) rfl (Nat.le_refl _) (Nat.le_refl _) hv
    · replace hv := hv.2.2 q
      refine sw_aload_n (dX9_r.at 7 rfl) rfl rfl ?_
      refine sw_iload_n (dX9_r.at 8 rfl) rfl rfl ?_
      refine sw_iload_n (dX9_r.at 9 rfl) rfl rfl ?_
      refine sw_iload_n (dX9_r.at 10 rfl) rfl rfl ?_
      exact hv

set_option maxHeartbeats 4000000 in
theorem c_X9_r {G : GG} {j nw nx gn : Nat} {g : Nat → Sh} {c : Nat → Nat → Int} {post : Option AV → AM → Prop} {P : GD} {T : PT} {x y k : Int} (hM : ML c P) (hV : GV P) (hC : GC P) (hG : GP P T) (hR : RR P T c) (p1 : -2147483648 ≤ x ∧ x < 2147483648) (p2 : -2147483648 ≤ y ∧ y < 2147483648) (p3 : -2147483648 ≤ k ∧ k < 2147483648) (K : ∀ c2 : Nat → Nat → Int, (SD c c2 ∧ RR P T c2) → post (some (vi (q_r P x y k))) (S nw nx g, 78 + gn, c2)) : SM G (j + 6) mX9_r [vr (49), vi (x), vi (y), vi (k)] (S nw nx g, 78 + gn, c) 0 0 post := by
  refine sm_of wX9_r rfl (Nat.le_of_ble_eq_true rfl) ?_
  have hN60 := GV_N hV
  have hR5 := GV_R hV
  by_cases hv : ((0 ≤ x ∧ x < (gN P : Int)) ∧ 0 ≤ y ∧ y < (gN P : Int)) ∧ 0 ≤ k
  · obtain ⟨x, rfl⟩ : ∃ n : Nat, x = (n : Int) := ⟨x.toNat, by omega⟩
    obtain ⟨y, rfl⟩ : ∃ n : Nat, y = (n : Int) := ⟨y.toNat, by omega⟩
    obtain ⟨k, rfl⟩ : ∃ n : Nat, k = (n : Int) := ⟨k.toNat, by omega⟩
    have e : q_r P ((x : Nat) : Int) ((y : Nat) : Int) ((k : Nat) : Int) = rF P x y k := by
      rw [q_r, if_pos hv]
      simp only [Int.toNat_natCast]
    rw [e] at K
    have K1 : ∀ (z : Int) (c2 : Nat → Nat → Int), ((SD c c2 ∧ RR P T c2)) → z = (rF P x y k) → post (some (vi z)) (S nw nx g, 78 + gn, c2) := fun z c2 h e9 => e9 ▸ K c2 h
    refine g_X9_r_0n hM hV hC hG hR ?_
    refine ⟨?_, ?_, fun c_1 h_1 => ⟨?_, ⟨fun q => ?_, fun q => ⟨?_, ?_, ?_, ?_⟩⟩⟩⟩
    all_goals first | omega | assumption | (exfalso; simp only [decide_eq_true_eq, decide_eq_false_iff_not] at *; omega) | (rw [r_14 hG (by omega) (by omega)]; exact (K c_1 ⟨h_1.1, Or.inr h_1.2⟩)) | exact K _ (by first | exact ⟨SD_rf, hR⟩ | exact ⟨h_1.1, Or.inr h_1.2⟩ | assumption | exact ⟨SD_tr h_1.1 (SD_SC h_2), Or.inr (RD_SC h_1.2 h_2)⟩ | exact ⟨SD_tr h_1.1 (SD_SC (SC_tr h_2 h_3)), Or.inr (RD_SC h_1.2 (SC_tr h_2 h_3))⟩) | (refine K1 _ _ (by first | exact ⟨SD_rf, hR⟩ | exact ⟨h_1.1, Or.inr h_1.2⟩ | assumption | exact ⟨SD_tr h_1.1 (SD_SC h_2), Or.inr (RD_SC h_1.2 h_2)⟩ | exact ⟨SD_tr h_1.1 (SD_SC (SC_tr h_2 h_3)), Or.inr (RD_SC h_1.2 (SC_tr h_2 h_3))⟩) ?_; first | rfl | (simp [bz, *]; done) | (split <;> first | rfl | omega))
  · have e : q_r P x y k = (-1000000) := by rw [q_r, if_neg hv]
    rw [e] at K
    have K1 : ∀ (z : Int) (c2 : Nat → Nat → Int), ((SD c c2 ∧ RR P T c2)) → z = ((-1000000)) → post (some (vi z)) (S nw nx g, 78 + gn, c2) := fun z c2 h e9 => e9 ▸ K c2 h
    refine g_X9_r_0 hM hV hC hG hR ?_
    refine ⟨?_, ?_, fun c_1 h_1 => ⟨fun q => ?_, fun q => ⟨?_, ⟨fun q => ?_, fun q => ?_⟩⟩⟩⟩
    all_goals first | omega | assumption | (exfalso; simp only [decide_eq_true_eq, decide_eq_false_iff_not] at *; omega) | exact K _ (by first | exact ⟨SD_rf, hR⟩ | exact ⟨h_1.1, Or.inr h_1.2⟩ | assumption | exact ⟨SD_tr h_1.1 (SD_SC h_2), Or.inr (RD_SC h_1.2 h_2)⟩ | exact ⟨SD_tr h_1.1 (SD_SC (SC_tr h_2 h_3)), Or.inr (RD_SC h_1.2 (SC_tr h_2 h_3))⟩) | (refine K1 _ _ (by first | exact ⟨SD_rf, hR⟩ | exact ⟨h_1.1, Or.inr h_1.2⟩ | assumption | exact ⟨SD_tr h_1.1 (SD_SC h_2), Or.inr (RD_SC h_1.2 h_2)⟩ | exact ⟨SD_tr h_1.1 (SD_SC (SC_tr h_2 h_3)), Or.inr (RD_SC h_1.2 (SC_tr h_2 h_3))⟩) ?_; first | rfl | (simp [bz, *]; done) | (split <;> first | rfl | omega))

set_option maxHeartbeats 2000000 in
set_option maxRecDepth 20000 in
theorem g_X9_p_0n {G : GG} {j nw nx gn : Nat} {g : Nat → Sh} {c : Nat → Nat → Int} {post : Option AV → AM → Prop} {x : Nat} {y : Nat} {k : Nat} {P : GD} {T : PT} (hM : ML c P) (hV : GV P) (hC : GC P) (hG : GP P T) (hR : RR P T c)  (hv : (x < gN P) ∧ (y < gN P) ∧ (∀ c_1 : Nat → Nat → Int, (SD c c_1 ∧ RD P T c_1) → (k < 2147483648) ∧ (((((k : Nat) : Int) < 0) → post (some (vi ((-1000000)))) (S nw nx g, 78 + gn, c_1)) ∧ ((¬ (((k : Nat) : Int) < 0)) → (x < gN P) ∧ (y < gN P) ∧ (k < 2147483648) ∧ (post (some (vi ((if k < 7 then T x y k else 0)))) (S nw nx g, 78 + gn, c_1)))))) :
    SW G (j + 5) mX9_p 0 [some (vr (49)), some (vi (((x : Nat) : Int))), some (vi (((y : Nat) : Int))), some (vi (((k : Nat) : Int)))] [] (S nw nx g, 78 + gn, c) B0 post := by
  refine sw_aload_n (dX9_p.at 0 rfl) rfl rfl ?_
  refine sw_iload_n (dX9_p.at 1 rfl) rfl rfl ?_
  refine sw_iload_n (dX9_p.at 2 rfl) rfl rfl ?_
  refine sw_callV (B' := B0) (As := [vi (((x : Nat) : Int)), vi (((y : Nat) : Int))]) (mc := 0) (ms := 0) (dX9_p.at 3 rfl) lk_X9_308 (S_lt 49 (by decide)) (S_49 nw nx g) rfl rfl (Nat.le_of_ble_eq_true rfl) rfl (Nat.le_refl _) (Nat.le_refl _) ?_
  refine c_X9_arePairY (x := x) (y := y) (j := j + 0) hM hV hC hG hR hv.1 hv.2.1 (fun c_1 h_1 => ?_)
  replace hv := hv.2.2 c_1 h_1
  refine sw_if_eq (tgt := 23) (dX9_p.at 4 rfl) (by decide) (by decide) (fun q => ?_) (fun q => ?_)
  · exact absurd q (by decide)
  · clear q
    refine sw_iload_n (dX9_p.at 5 rfl) rfl rfl ?_
    refine sw_if_lt (tgt := 23) (dX9_p.at 6 rfl) (by decide) (nrng hv.1) (fun q => ?_) (fun q => ?_)
    · replace hv := hv.2.1 q
      refine sw_ldcw (z := (-1000000)) (dX9_p.at 13 rfl) kc_X9_318 (by decide) ?_
      exact sw_iret (dX9_p.at 14 rfl) rfl (Nat.le_refl _) (Nat.le_refl _) hv
    · replace hv := hv.2.2 q
      refine sw_aload_n (dX9_p.at 7 rfl) rfl rfl ?_
      refine sw_iload_n (dX9_p.at 8 rfl) rfl rfl ?_
      refine sw_iload_n (dX9_p.at 9 rfl) rfl rfl ?_
      refine sw_iload_n (dX9_p.at 10 rfl) rfl rfl ?_
      refine sw_callV (B' := B0) (As := [vi (((x : Nat) : Int)), vi (((y : Nat) : Int)), vi (((k : Nat) : Int))]) (mc := 0) (ms := 0) (dX9_p.at 11 rfl) lk_X9_292 (S_lt 49 (by decide)) (S_49 nw nx g) rfl rfl (Nat.le_of_ble_eq_true rfl) rfl (Nat.le_refl _) (Nat.le_refl _) ?_
      refine c_X9_pAtD (v := x) (w := y) (k := k) (j := j + 3) (ML_SD hM (SD_tr SD_rf h_1.1)) hV hC h_1.2.2 hv.1 hv.2.1 hv.2.2.1 ?_
      replace hv := hv.2.2.2
      refine sw_goto (tgt := 26) (dX9_p.at 12 rfl) (by decide) ?_
      exact sw_iret (dX9_p.at 14 rfl) rfl (Nat.le_refl _) (Nat.le_refl _) hv

set_option maxHeartbeats 2000000 in
set_option maxRecDepth 20000 in
theorem g_X9_p_0 {G : GG} {j nw nx gn : Nat} {g : Nat → Sh} {c : Nat → Nat → Int} {post : Option AV → AM → Prop} {x : Int} {y : Int} {k : Int} {P : GD} {T : PT} (hM : ML c P) (hV : GV P) (hC : GC P) (hG : GP P T) (hR : RR P T c)  (hv : (-2147483648 ≤ x ∧ x < 2147483648) ∧ (-2147483648 ≤ y ∧ y < 2147483648) ∧ (∀ c_1 : Nat → Nat → Int, (SD c c_1 ∧ RR P T c_1) → (((decide ((0 ≤ x ∧ x < (gN P : Int)) ∧ 0 ≤ y ∧ y < (gN P : Int))) = false) → post (some (vi ((-1000000)))) (S nw nx g, 78 + gn, c_1)) ∧ (((decide ((0 ≤ x ∧ x < (gN P : Int)) ∧ 0 ≤ y ∧ y < (gN P : Int))) = true) → (-2147483648 ≤ k ∧ k < 2147483648) ∧ (((k < 0) → post (some (vi ((-1000000)))) (S nw nx g, 78 + gn, c_1)) ∧ ((¬ (k < 0)) → SW G (j + 5) mX9_p 17 [some (vr (49)), some (vi (x)), some (vi (y)), some (vi (k))] [vi (k), vi (y), vi (x), vr (49)] (S nw nx g, 78 + gn, c_1) B0 post))))) :
    SW G (j + 5) mX9_p 0 [some (vr (49)), some (vi (x)), some (vi (y)), some (vi (k))] [] (S nw nx g, 78 + gn, c) B0 post := by
  refine sw_aload_n (dX9_p.at 0 rfl) rfl rfl ?_
  refine sw_iload_n (dX9_p.at 1 rfl) rfl rfl ?_
  refine sw_iload_n (dX9_p.at 2 rfl) rfl rfl ?_
  refine sw_callV (B' := B0) (As := [vi (x), vi (y)]) (mc := 0) (ms := 0) (dX9_p.at 3 rfl) lk_X9_308 (S_lt 49 (by decide)) (S_49 nw nx g) rfl rfl (Nat.le_of_ble_eq_true rfl) rfl (Nat.le_refl _) (Nat.le_refl _) ?_
  refine c_X9_arePairG (x := x) (y := y) (j := j + 0) hM hV hC hG hR hv.1 hv.2.1 (fun c_1 h_1 => ?_)
  replace hv := hv.2.2 c_1 h_1
  refine sw_if_eq (tgt := 23) (dX9_p.at 4 rfl) (by decide) (bz_rng _) (fun q => ?_) (fun q => ?_)
  · replace hv := hv.1 (bz_0 q)
    refine sw_ldcw (z := (-1000000)) (dX9_p.at 13 rfl) kc_X9_318 (by decide) ?_
    exact sw_iret (dX9_p.at 14 rfl) rfl (Nat.le_refl _) (Nat.le_refl _) hv
  · replace hv := hv.2 (bz_n0 q)
    refine sw_iload_n (dX9_p.at 5 rfl) rfl rfl ?_
    refine sw_if_lt (tgt := 23) (dX9_p.at 6 rfl) (by decide) hv.1 (fun q => ?_) (fun q => ?_)
    · replace hv := hv.2.1 q
      refine sw_ldcw (z := (-1000000)) (dX9_p.at 13 rfl) kc_X9_318 (by decide) ?_
      exact sw_iret (dX9_p.at 14 rfl) rfl (Nat.le_refl _) (Nat.le_refl _) hv
    · replace hv := hv.2.2 q
      refine sw_aload_n (dX9_p.at 7 rfl) rfl rfl ?_
      refine sw_iload_n (dX9_p.at 8 rfl) rfl rfl ?_
      refine sw_iload_n (dX9_p.at 9 rfl) rfl rfl ?_
      refine sw_iload_n (dX9_p.at 10 rfl) rfl rfl ?_
      exact hv

set_option maxHeartbeats 4000000 in
theorem c_X9_p {G : GG} {j nw nx gn : Nat} {g : Nat → Sh} {c : Nat → Nat → Int} {post : Option AV → AM → Prop} {P : GD} {T : PT} {x y k : Int} (hM : ML c P) (hV : GV P) (hC : GC P) (hG : GP P T) (hR : RR P T c) (p1 : -2147483648 ≤ x ∧ x < 2147483648) (p2 : -2147483648 ≤ y ∧ y < 2147483648) (p3 : -2147483648 ≤ k ∧ k < 2147483648) (K : ∀ c2 : Nat → Nat → Int, (SD c c2 ∧ RR P T c2) → post (some (vi (q_p P T x y k))) (S nw nx g, 78 + gn, c2)) : SM G (j + 6) mX9_p [vr (49), vi (x), vi (y), vi (k)] (S nw nx g, 78 + gn, c) 0 0 post := by
  refine sm_of wX9_p rfl (Nat.le_of_ble_eq_true rfl) ?_
  have hN60 := GV_N hV
  have hR5 := GV_R hV
  by_cases hv : ((0 ≤ x ∧ x < (gN P : Int)) ∧ 0 ≤ y ∧ y < (gN P : Int)) ∧ 0 ≤ k
  · obtain ⟨x, rfl⟩ : ∃ n : Nat, x = (n : Int) := ⟨x.toNat, by omega⟩
    obtain ⟨y, rfl⟩ : ∃ n : Nat, y = (n : Int) := ⟨y.toNat, by omega⟩
    obtain ⟨k, rfl⟩ : ∃ n : Nat, k = (n : Int) := ⟨k.toNat, by omega⟩
    have e : q_p P T ((x : Nat) : Int) ((y : Nat) : Int) ((k : Nat) : Int) = if k < 8 then T x y k else 0 := by
      rw [q_p, if_pos hv]
      simp only [Int.toNat_natCast]
    rw [e] at K
    have K1 : ∀ (z : Int) (c2 : Nat → Nat → Int), ((SD c c2 ∧ RR P T c2)) → z = (if k < 8 then T x y k else 0) → post (some (vi z)) (S nw nx g, 78 + gn, c2) := fun z c2 h e9 => e9 ▸ K c2 h
    refine g_X9_p_0n hM hV hC hG hR ?_
    refine ⟨?_, ?_, fun c_1 h_1 => ⟨?_, ⟨fun q => ?_, fun q => ⟨?_, ?_, ?_, ?_⟩⟩⟩⟩
    all_goals first | omega | assumption | (exfalso; simp only [decide_eq_true_eq, decide_eq_false_iff_not] at *; omega) | (rw [T_78 hV hG (by omega) (by omega)]; exact (K c_1 ⟨h_1.1, Or.inr h_1.2⟩)) | exact K _ (by first | exact ⟨SD_rf, hR⟩ | exact ⟨h_1.1, Or.inr h_1.2⟩ | assumption | exact ⟨SD_tr h_1.1 (SD_SC h_2), Or.inr (RD_SC h_1.2 h_2)⟩ | exact ⟨SD_tr h_1.1 (SD_SC (SC_tr h_2 h_3)), Or.inr (RD_SC h_1.2 (SC_tr h_2 h_3))⟩) | (refine K1 _ _ (by first | exact ⟨SD_rf, hR⟩ | exact ⟨h_1.1, Or.inr h_1.2⟩ | assumption | exact ⟨SD_tr h_1.1 (SD_SC h_2), Or.inr (RD_SC h_1.2 h_2)⟩ | exact ⟨SD_tr h_1.1 (SD_SC (SC_tr h_2 h_3)), Or.inr (RD_SC h_1.2 (SC_tr h_2 h_3))⟩) ?_; first | rfl | (simp [bz, *]; done) | (split <;> first | rfl | omega))
  · have e : q_p P T x y k = (-1000000) := by rw [q_p, if_neg hv]
    rw [e] at K
    have K1 : ∀ (z : Int) (c2 : Nat → Nat → Int), ((SD c c2 ∧ RR P T c2)) → z = ((-1000000)) → post (some (vi z)) (S nw nx g, 78 + gn, c2) := fun z c2 h e9 => e9 ▸ K c2 h
    refine g_X9_p_0 hM hV hC hG hR ?_
    refine ⟨?_, ?_, fun c_1 h_1 => ⟨fun q => ?_, fun q => ⟨?_, ⟨fun q => ?_, fun q => ?_⟩⟩⟩⟩
    all_goals first | omega | assumption | (exfalso; simp only [decide_eq_true_eq, decide_eq_false_iff_not] at *; omega) | exact K _ (by first | exact ⟨SD_rf, hR⟩ | exact ⟨h_1.1, Or.inr h_1.2⟩ | assumption | exact ⟨SD_tr h_1.1 (SD_SC h_2), Or.inr (RD_SC h_1.2 h_2)⟩ | exact ⟨SD_tr h_1.1 (SD_SC (SC_tr h_2 h_3)), Or.inr (RD_SC h_1.2 (SC_tr h_2 h_3))⟩) | (refine K1 _ _ (by first | exact ⟨SD_rf, hR⟩ | exact ⟨h_1.1, Or.inr h_1.2⟩ | assumption | exact ⟨SD_tr h_1.1 (SD_SC h_2), Or.inr (RD_SC h_1.2 h_2)⟩ | exact ⟨SD_tr h_1.1 (SD_SC (SC_tr h_2 h_3)), Or.inr (RD_SC h_1.2 (SC_tr h_2 h_3))⟩) ?_; first | rfl | (simp [bz, *]; done) | (split <;> first | rfl | omega))

set_option maxHeartbeats 2000000 in
set_option maxRecDepth 20000 in
theorem g_X9_between_5 {G : GG} {j nw nx gn : Nat} {g : Nat → Sh} {c : Nat → Nat → Int} {post : Option AV → AM → Prop} {x : Nat} {y : Nat} {P : GD} {T : PT} {z : Nat} {a : Nat} (hM : ML c P) (hV : GV P) (hC : GC P) (hD : PD P T c)  (hv : (z < 2147483648) ∧ (gN P < 2147483648) ∧ (((gN P ≤ z) → post (some (vl (((a : Nat) : Int)))) (S nw nx g, 78 + gn, c)) ∧ ((¬ (gN P ≤ z)) → (x < gN P) ∧ (z < gN P) ∧ (((((gD P z).testBit x) = false) → SW G (j + 1) mX9_between 5 [some (vr (49)), some (vi (((x : Nat) : Int))), some (vi (((y : Nat) : Int))), some (vl (((a ||| 0 : Nat) : Int))), none, some (vi (((z + 1 : Nat) : Int)))] [] (S nw nx g, 78 + gn, c) B0 post) ∧ ((((gD P z).testBit x) = true) → (z < gN P) ∧ (y < gN P) ∧ (((((gD P y).testBit z) = false) → SW G (j + 1) mX9_between 5 [some (vr (49)), some (vi (((x : Nat) : Int))), some (vi (((y : Nat) : Int))), some (vl (((a ||| 0 : Nat) : Int))), none, some (vi (((z + 1 : Nat) : Int)))] [] (S nw nx g, 78 + gn, c) B0 post) ∧ ((((gD P y).testBit z) = true) → (z < 64) ∧ (SW G (j + 1) mX9_between 5 [some (vr (49)), some (vi (((x : Nat) : Int))), some (vi (((y : Nat) : Int))), some (vl (((a ||| (1 * 2 ^ z) : Nat) : Int))), none, some (vi (((z + 1 : Nat) : Int)))] [] (S nw nx g, 78 + gn, c) B0 post)))))))) :
    SW G (j + 1) mX9_between 5 [some (vr (49)), some (vi (((x : Nat) : Int))), some (vi (((y : Nat) : Int))), some (vl (((a : Nat) : Int))), none, some (vi (((z : Nat) : Int)))] [] (S nw nx g, 78 + gn, c) B0 post := by
  refine sw_iload (dX9_between.at 4 rfl) rfl ?_
  refine sw_aload_n (dX9_between.at 5 rfl) rfl rfl ?_
  refine sw_getIE (w := ((gN P : Nat) : Int)) (dX9_between.at 6 rfl) fp_X9_196 (S_lt 49 (by decide)) (S_49 nw nx g) rfl hM.1.2.1 ?_
  refine sw_icmpN_ge z (gN P) (tgt := 51) (dX9_between.at 7 rfl) (by decide) hv.1 hv.2.1 (fun q => ?_) (fun q => ?_)
  · replace hv := hv.2.2.1 q
    refine sw_lload_n (dX9_between.at 28 rfl) rfl rfl ?_
    exact sw_lret (dX9_between.at 29 rfl) rfl (Nat.le_refl _) (Nat.le_refl _) hv
  · replace hv := hv.2.2.2 q
    refine sw_lload_n (dX9_between.at 8 rfl) rfl rfl ?_
    refine sw_aload_n (dX9_between.at 9 rfl) rfl rfl ?_
    refine sw_iload_n (dX9_between.at 10 rfl) rfl rfl ?_
    refine sw_iload (dX9_between.at 11 rfl) rfl ?_
    refine sw_callV (B' := B0) (As := [vi (((x : Nat) : Int)), vi (((z : Nat) : Int))]) (mc := 0) (ms := 0) (dX9_between.at 12 rfl) lk_X9_311 (S_lt 49 (by decide)) (S_49 nw nx g) rfl rfl (Nat.le_of_ble_eq_true rfl) rfl (Nat.le_refl _) (Nat.le_refl _) ?_
    refine c_X9_areBelow (v := x) (w := z) (j := j + 0) hM hV hC hD hv.1 hv.2.1 ?_
    replace hv := hv.2.2
    refine sw_if_eq (tgt := 42) (dX9_between.at 13 rfl) (by decide) (bz_rng _) (fun q => ?_) (fun q => ?_)
    · replace hv := hv.1 (bz_0 q)
      refine sw_lconst (z := 0) (dX9_between.at 23 rfl) (by decide) ?_
      refine sw_lorN a 0 (dX9_between.at 24 rfl) ?_
      refine sw_lstore_n (lo' := [some (vr (49)), some (vi (((x : Nat) : Int))), some (vi (((y : Nat) : Int))), some (vl (((a ||| 0 : Nat) : Int))), none, some (vi (((z : Nat) : Int)))]) (dX9_between.at 25 rfl) rfl (by decide) rfl ?_
      refine sw_iinc (lo' := [some (vr (49)), some (vi (((x : Nat) : Int))), some (vi (((y : Nat) : Int))), some (vl (((a ||| 0 : Nat) : Int))), none, some (vi (((z + 1 : Nat) : Int)))]) (dX9_between.at 26 rfl) rfl (by decide) rfl ?_
      refine sw_goto (tgt := 5) (dX9_between.at 27 rfl) (by decide) ?_
      exact hv
    · replace hv := hv.2 (bz_n0 q)
      refine sw_aload_n (dX9_between.at 14 rfl) rfl rfl ?_
      refine sw_iload (dX9_between.at 15 rfl) rfl ?_
      refine sw_iload_n (dX9_between.at 16 rfl) rfl rfl ?_
      refine sw_callV (B' := B0) (As := [vi (((z : Nat) : Int)), vi (((y : Nat) : Int))]) (mc := 0) (ms := 0) (dX9_between.at 17 rfl) lk_X9_311 (S_lt 49 (by decide)) (S_49 nw nx g) rfl rfl (Nat.le_of_ble_eq_true rfl) rfl (Nat.le_refl _) (Nat.le_refl _) ?_
      refine c_X9_areBelow (v := z) (w := y) (j := j + 0) hM hV hC hD hv.1 hv.2.1 ?_
      replace hv := hv.2.2
      refine sw_if_eq (tgt := 42) (dX9_between.at 18 rfl) (by decide) (bz_rng _) (fun q => ?_) (fun q => ?_)
      · replace hv := hv.1 (bz_0 q)
        refine sw_lconst (z := 0) (dX9_between.at 23 rfl) (by decide) ?_
        refine sw_lorN a 0 (dX9_between.at 24 rfl) ?_
        refine sw_lstore_n (lo' := [some (vr (49)), some (vi (((x : Nat) : Int))), some (vi (((y : Nat) : Int))), some (vl (((a ||| 0 : Nat) : Int))), none, some (vi (((z : Nat) : Int)))]) (dX9_between.at 25 rfl) rfl (by decide) rfl ?_
        refine sw_iinc (lo' := [some (vr (49)), some (vi (((x : Nat) : Int))), some (vi (((y : Nat) : Int))), some (vl (((a ||| 0 : Nat) : Int))), none, some (vi (((z + 1 : Nat) : Int)))]) (dX9_between.at 26 rfl) rfl (by decide) rfl ?_
        refine sw_goto (tgt := 5) (dX9_between.at 27 rfl) (by decide) ?_
        exact hv
      · replace hv := hv.2 (bz_n0 q)
        refine sw_lconst (z := 1) (dX9_between.at 19 rfl) (by decide) ?_
        refine sw_iload (dX9_between.at 20 rfl) rfl ?_
        refine sw_lshlN 1 z (dX9_between.at 21 rfl) hv.1 ?_
        replace hv := hv.2
        refine sw_goto (tgt := 43) (dX9_between.at 22 rfl) (by decide) ?_
        refine sw_lorN a (1 * 2 ^ z) (dX9_between.at 24 rfl) ?_
        refine sw_lstore_n (lo' := [some (vr (49)), some (vi (((x : Nat) : Int))), some (vi (((y : Nat) : Int))), some (vl (((a ||| (1 * 2 ^ z) : Nat) : Int))), none, some (vi (((z : Nat) : Int)))]) (dX9_between.at 25 rfl) rfl (by decide) rfl ?_
        refine sw_iinc (lo' := [some (vr (49)), some (vi (((x : Nat) : Int))), some (vi (((y : Nat) : Int))), some (vl (((a ||| (1 * 2 ^ z) : Nat) : Int))), none, some (vi (((z + 1 : Nat) : Int)))]) (dX9_between.at 26 rfl) rfl (by decide) rfl ?_
        refine sw_goto (tgt := 5) (dX9_between.at 27 rfl) (by decide) ?_
        exact hv

set_option maxHeartbeats 4000000 in
theorem lp_X9_between_5 {G : GG} {j nw nx gn : Nat} {g : Nat → Sh} {c : Nat → Nat → Int} {post : Option AV → AM → Prop} {P : GD} {T : PT} {x : Nat} {y : Nat} (hM : ML c P) (hV : GV P) (hC : GC P) (hD : PD P T c) (hx : x < gN P) (hy : y < gN P) : ∀ (k : Nat) (z : Nat) (a : Nat), z + k = gN P → (post (some (vl (((bitD (pBt P x y) k z a : Nat) : Int)))) (S nw nx g, 78 + gn, c)) → SW G (j + 1) mX9_between 5 [some (vr (49)), some (vi (((x : Nat) : Int))), some (vi (((y : Nat) : Int))), some (vl (((a : Nat) : Int))), none, some (vi (((z : Nat) : Int)))] [] (S nw nx g, 78 + gn, c) B0 post := by
  intro k
  induction k with
  | zero =>
    intro z a hrel  K
    have h60 := GV_N hV
    simp only [bitD, pBt] at K
    refine g_X9_between_5 hM hV hC hD  ?_
    refine ⟨?_, ?_, ⟨fun q => ?_, fun q => ⟨?_, ?_, ⟨fun q => ?_, fun q => ⟨?_, ?_, ⟨fun q => ?_, fun q => ⟨?_, ?_⟩⟩⟩⟩⟩⟩⟩
    all_goals first | omega | exact K | (exfalso; omega) | (simp only [*, if_true, if_false, ite_true, ite_false, Bool.false_eq_true, and_true, true_and, and_false, false_and, and_self, or_true, true_or, or_false, false_or, Bool.and_true, Bool.and_false, Bool.true_and, Bool.false_and, decide_true, decide_false, eq_self, not_true_eq_false, not_false_eq_true, ne_eq, reduceCtorEq] at K; exact K)
  | succ k ih =>
    intro z a hrel  K
    have h60 := GV_N hV
    simp only [bitD, pBt] at K
    refine g_X9_between_5 hM hV hC hD  ?_
    refine ⟨?_, ?_, ⟨fun q => ?_, fun q => ⟨?_, ?_, ⟨fun q => ?_, fun q => ⟨?_, ?_, ⟨fun q => ?_, fun q => ⟨?_, ?_⟩⟩⟩⟩⟩⟩⟩
    all_goals first | omega | assumption | (exfalso; omega) | (simp only [*, if_true, if_false, ite_true, ite_false, Bool.false_eq_true, and_true, true_and, and_false, false_and, and_self, or_true, true_or, or_false, false_or, Bool.and_true, Bool.and_false, Bool.true_and, Bool.false_and, decide_true, decide_false, eq_self, not_true_eq_false, not_false_eq_true, ne_eq, reduceCtorEq] at K; first | exact K | exact ih _ _ (by omega)  K) | exact ih _ _ (by omega)  K

set_option maxHeartbeats 2000000 in
set_option maxRecDepth 20000 in
theorem g_X9_between_0 {G : GG} {j nw nx gn : Nat} {g : Nat → Sh} {c : Nat → Nat → Int} {post : Option AV → AM → Prop} {x : Nat} {y : Nat}  (hv : SW G (j + 1) mX9_between 5 [some (vr (49)), some (vi (((x : Nat) : Int))), some (vi (((y : Nat) : Int))), some (vl (0)), none, some (vi (0))] [] (S nw nx g, 78 + gn, c) B0 post) :
    SW G (j + 1) mX9_between 0 [some (vr (49)), some (vi (((x : Nat) : Int))), some (vi (((y : Nat) : Int))), none, none, none] [] (S nw nx g, 78 + gn, c) B0 post := by
  refine sw_lconst (z := 0) (dX9_between.at 0 rfl) (by decide) ?_
  refine sw_lstore_n (lo' := [some (vr (49)), some (vi (((x : Nat) : Int))), some (vi (((y : Nat) : Int))), some (vl (0)), none, none]) (dX9_between.at 1 rfl) rfl (by decide) rfl ?_
  refine sw_iconst (dX9_between.at 2 rfl) ?_
  refine sw_istore (lo' := [some (vr (49)), some (vi (((x : Nat) : Int))), some (vi (((y : Nat) : Int))), some (vl (0)), none, some (vi (0))]) (dX9_between.at 3 rfl) (by decide) rfl ?_
  exact hv

set_option maxHeartbeats 2000000 in
theorem c_X9_between {G : GG} {j nw nx gn : Nat} {g : Nat → Sh} {c : Nat → Nat → Int} {post : Option AV → AM → Prop} {P : GD} {T : PT} {x : Nat} {y : Nat} (hM : ML c P) (hV : GV P) (hC : GC P) (hD : PD P T c) (p1 : x < gN P) (p2 : y < gN P) (K : post (some (vl (((bitsU (pBt P x y) (gN P) : Nat) : Int)))) (S nw nx g, 78 + gn, c)) : SM G (j + 2) mX9_between [vr (49), vi (((x : Nat) : Int)), vi (((y : Nat) : Int))] (S nw nx g, 78 + gn, c) 0 0 post := by
  refine sm_of wX9_between rfl (Nat.le_of_ble_eq_true rfl) ?_
  refine g_X9_between_0  ?_
  exact lp_X9_between_5 hM hV hC hD p1 p2 (gN P) 0 0 (by omega) (by rw [bitD_U]; exact K)

set_option maxHeartbeats 2000000 in
set_option maxRecDepth 20000 in
theorem g_X9_interval_0n {G : GG} {j nw nx gn : Nat} {g : Nat → Sh} {c : Nat → Nat → Int} {post : Option AV → AM → Prop} {x : Nat} {y : Nat} {P : GD} {T : PT} (hM : ML c P) (hV : GV P) (hC : GC P) (hG : GP P T) (hR : RR P T c)  (hv : (x < gN P) ∧ (y < gN P) ∧ (∀ c_1 : Nat → Nat → Int, (SD c c_1 ∧ RD P T c_1) → (x < gN P) ∧ (y < gN P) ∧ (post (some (vl (((bitsU (pBt P x y) (gN P) : Nat) : Int)))) (S nw nx g, 78 + gn, c_1)))) :
    SW G (j + 5) mX9_interval 0 [some (vr (49)), some (vi (((x : Nat) : Int))), some (vi (((y : Nat) : Int)))] [] (S nw nx g, 78 + gn, c) B0 post := by
  refine sw_aload_n (dX9_interval.at 0 rfl) rfl rfl ?_
  refine sw_iload_n (dX9_interval.at 1 rfl) rfl rfl ?_
  refine sw_iload_n (dX9_interval.at 2 rfl) rfl rfl ?_
  refine sw_callV (B' := B0) (As := [vi (((x : Nat) : Int)), vi (((y : Nat) : Int))]) (mc := 0) (ms := 0) (dX9_interval.at 3 rfl) lk_X9_308 (S_lt 49 (by decide)) (S_49 nw nx g) rfl rfl (Nat.le_of_ble_eq_true rfl) rfl (Nat.le_refl _) (Nat.le_refl _) ?_
  refine c_X9_arePairY (x := x) (y := y) (j := j + 0) hM hV hC hG hR hv.1 hv.2.1 (fun c_1 h_1 => ?_)
  replace hv := hv.2.2 c_1 h_1
  refine sw_if_eq (tgt := 18) (dX9_interval.at 4 rfl) (by decide) (by decide) (fun q => ?_) (fun q => ?_)
  · exact absurd q (by decide)
  · clear q
    refine sw_aload_n (dX9_interval.at 5 rfl) rfl rfl ?_
    refine sw_iload_n (dX9_interval.at 6 rfl) rfl rfl ?_
    refine sw_iload_n (dX9_interval.at 7 rfl) rfl rfl ?_
    refine sw_callV (B' := B0) (As := [vi (((x : Nat) : Int)), vi (((y : Nat) : Int))]) (mc := 0) (ms := 0) (dX9_interval.at 8 rfl) lk_X9_314 (S_lt 49 (by decide)) (S_49 nw nx g) rfl rfl (Nat.le_of_ble_eq_true rfl) rfl (Nat.le_refl _) (Nat.le_refl _) ?_
    refine c_X9_between (T := T) (x := x) (y := y) (j := j + 3) (ML_SD hM (SD_tr SD_rf h_1.1)) hV hC h_1.2.2 hv.1 hv.2.1 ?_
    replace hv := hv.2.2
    refine sw_goto (tgt := 21) (dX9_interval.at 9 rfl) (by decide) ?_
    exact sw_lret (dX9_interval.at 11 rfl) rfl (Nat.le_refl _) (Nat.le_refl _) hv

set_option maxHeartbeats 2000000 in
set_option maxRecDepth 20000 in
theorem g_X9_interval_0 {G : GG} {j nw nx gn : Nat} {g : Nat → Sh} {c : Nat → Nat → Int} {post : Option AV → AM → Prop} {x : Int} {y : Int} {P : GD} {T : PT} (hM : ML c P) (hV : GV P) (hC : GC P) (hG : GP P T) (hR : RR P T c)  (hv : (-2147483648 ≤ x ∧ x < 2147483648) ∧ (-2147483648 ≤ y ∧ y < 2147483648) ∧ (∀ c_1 : Nat → Nat → Int, (SD c c_1 ∧ RR P T c_1) → (((decide ((0 ≤ x ∧ x < (gN P : Int)) ∧ 0 ≤ y ∧ y < (gN P : Int))) = false) → post (some (vl ((-2)))) (S nw nx g, 78 + gn, c_1)) ∧ (((decide ((0 ≤ x ∧ x < (gN P : Int)) ∧ 0 ≤ y ∧ y < (gN P : Int))) = true) → SW G (j + 5) mX9_interval 12 [some (vr (49)), some (vi (x)), some (vi (y))] [vi (y), vi (x), vr (49)] (S nw nx g, 78 + gn, c_1) B0 post))) :
    SW G (j + 5) mX9_interval 0 [some (vr (49)), some (vi (x)), some (vi (y))] [] (S nw nx g, 78 + gn, c) B0 post := by
  refine sw_aload_n (dX9_interval.at 0 rfl) rfl rfl ?_
  refine sw_iload_n (dX9_interval.at 1 rfl) rfl rfl ?_
  refine sw_iload_n (dX9_interval.at 2 rfl) rfl rfl ?_
  refine sw_callV (B' := B0) (As := [vi (x), vi (y)]) (mc := 0) (ms := 0) (dX9_interval.at 3 rfl) lk_X9_308 (S_lt 49 (by decide)) (S_49 nw nx g) rfl rfl (Nat.le_of_ble_eq_true rfl) rfl (Nat.le_refl _) (Nat.le_refl _) ?_
  refine c_X9_arePairG (x := x) (y := y) (j := j + 0) hM hV hC hG hR hv.1 hv.2.1 (fun c_1 h_1 => ?_)
  replace hv := hv.2.2 c_1 h_1
  refine sw_if_eq (tgt := 18) (dX9_interval.at 4 rfl) (by decide) (bz_rng _) (fun q => ?_) (fun q => ?_)
  · replace hv := hv.1 (bz_0 q)
    refine sw_ldc2 (z := (-2)) (dX9_interval.at 10 rfl) kc_X9_259 (by decide) ?_
    exact sw_lret (dX9_interval.at 11 rfl) rfl (Nat.le_refl _) (Nat.le_refl _) hv
  · replace hv := hv.2 (bz_n0 q)
    refine sw_aload_n (dX9_interval.at 5 rfl) rfl rfl ?_
    refine sw_iload_n (dX9_interval.at 6 rfl) rfl rfl ?_
    refine sw_iload_n (dX9_interval.at 7 rfl) rfl rfl ?_
    exact hv

set_option maxHeartbeats 4000000 in
theorem c_X9_interval {G : GG} {j nw nx gn : Nat} {g : Nat → Sh} {c : Nat → Nat → Int} {post : Option AV → AM → Prop} {P : GD} {T : PT} {x y : Int} (hM : ML c P) (hV : GV P) (hC : GC P) (hG : GP P T) (hR : RR P T c) (p1 : -2147483648 ≤ x ∧ x < 2147483648) (p2 : -2147483648 ≤ y ∧ y < 2147483648) (K : ∀ c2 : Nat → Nat → Int, (SD c c2 ∧ RR P T c2) → post (some (vl (q_interval P x y))) (S nw nx g, 78 + gn, c2)) : SM G (j + 6) mX9_interval [vr (49), vi (x), vi (y)] (S nw nx g, 78 + gn, c) 0 0 post := by
  refine sm_of wX9_interval rfl (Nat.le_of_ble_eq_true rfl) ?_
  have hN60 := GV_N hV
  have hR5 := GV_R hV
  by_cases hv : (0 ≤ x ∧ x < (gN P : Int)) ∧ 0 ≤ y ∧ y < (gN P : Int)
  · obtain ⟨x, rfl⟩ : ∃ n : Nat, x = (n : Int) := ⟨x.toNat, by omega⟩
    obtain ⟨y, rfl⟩ : ∃ n : Nat, y = (n : Int) := ⟨y.toNat, by omega⟩
    have e : q_interval P ((x : Nat) : Int) ((y : Nat) : Int) = ((bitsU (pBt P x y) (gN P) : Nat) : Int) := by
      rw [q_interval, if_pos hv]
      simp only [Int.toNat_natCast]
    rw [e] at K
    have K1 : ∀ (z : Int) (c2 : Nat → Nat → Int), ((SD c c2 ∧ RR P T c2)) → z = (((bitsU (pBt P x y) (gN P) : Nat) : Int)) → post (some (vl z)) (S nw nx g, 78 + gn, c2) := fun z c2 h e9 => e9 ▸ K c2 h
    have hx : x < gN P := by omega
    have fx := hV.2.2.1 x hx
    have hy : y < gN P := by omega
    have fy := hV.2.2.1 y hy
    refine g_X9_interval_0n hM hV hC hG hR ?_
    refine ⟨?_, ?_, fun c_1 h_1 => ⟨?_, ?_, ?_⟩⟩
    all_goals first | omega | assumption | (exfalso; simp only [decide_eq_true_eq, decide_eq_false_iff_not] at *; omega) | exact K _ (by first | exact ⟨SD_rf, hR⟩ | exact ⟨h_1.1, Or.inr h_1.2⟩ | assumption | exact ⟨SD_tr h_1.1 (SD_SC h_2), Or.inr (RD_SC h_1.2 h_2)⟩ | exact ⟨SD_tr h_1.1 (SD_SC (SC_tr h_2 h_3)), Or.inr (RD_SC h_1.2 (SC_tr h_2 h_3))⟩) | (refine K1 _ _ (by first | exact ⟨SD_rf, hR⟩ | exact ⟨h_1.1, Or.inr h_1.2⟩ | assumption | exact ⟨SD_tr h_1.1 (SD_SC h_2), Or.inr (RD_SC h_1.2 h_2)⟩ | exact ⟨SD_tr h_1.1 (SD_SC (SC_tr h_2 h_3)), Or.inr (RD_SC h_1.2 (SC_tr h_2 h_3))⟩) ?_; first | rfl | (simp [bz, *]; done) | (split <;> first | rfl | omega))
  · have e : q_interval P x y = (-2) := by rw [q_interval, if_neg hv]
    rw [e] at K
    have K1 : ∀ (z : Int) (c2 : Nat → Nat → Int), ((SD c c2 ∧ RR P T c2)) → z = ((-2)) → post (some (vl z)) (S nw nx g, 78 + gn, c2) := fun z c2 h e9 => e9 ▸ K c2 h
    refine g_X9_interval_0 hM hV hC hG hR ?_
    refine ⟨?_, ?_, fun c_1 h_1 => ⟨fun q => ?_, fun q => ?_⟩⟩
    all_goals first | omega | assumption | (exfalso; simp only [decide_eq_true_eq, decide_eq_false_iff_not] at *; omega) | exact K _ (by first | exact ⟨SD_rf, hR⟩ | exact ⟨h_1.1, Or.inr h_1.2⟩ | assumption | exact ⟨SD_tr h_1.1 (SD_SC h_2), Or.inr (RD_SC h_1.2 h_2)⟩ | exact ⟨SD_tr h_1.1 (SD_SC (SC_tr h_2 h_3)), Or.inr (RD_SC h_1.2 (SC_tr h_2 h_3))⟩) | (refine K1 _ _ (by first | exact ⟨SD_rf, hR⟩ | exact ⟨h_1.1, Or.inr h_1.2⟩ | assumption | exact ⟨SD_tr h_1.1 (SD_SC h_2), Or.inr (RD_SC h_1.2 h_2)⟩ | exact ⟨SD_tr h_1.1 (SD_SC (SC_tr h_2 h_3)), Or.inr (RD_SC h_1.2 (SC_tr h_2 h_3))⟩) ?_; first | rfl | (simp [bz, *]; done) | (split <;> first | rfl | omega))

set_option maxHeartbeats 2000000 in
set_option maxRecDepth 20000 in
theorem g_X9_covers_28 {G : GG} {j nw nx gn : Nat} {g : Nat → Sh} {c : Nat → Nat → Int} {post : Option AV → AM → Prop} {x : Nat} {sd : Nat} {P : GD} {T : PT} {z : Nat} {a : Nat} (hM : ML c P) (hV : GV P) (hC : GC P) (hD : PD P T c)  (hv : (z < 2147483648) ∧ (gN P < 2147483648) ∧ (((gN P ≤ z) → post (some (vl (((a : Nat) : Int)))) (S nw nx g, 78 + gn, c)) ∧ ((¬ (gN P ≤ z)) → (sd < 2147483648) ∧ (((sd ≠ 0) → (x < gN P) ∧ (z < gN P) ∧ (((((gD P z).testBit x) = false) → SW G (j + 5) mX9_covers 28 [some (vr (49)), some (vi (((x : Nat) : Int))), some (vi (((sd : Nat) : Int))), some (vl (((a ||| 0 : Nat) : Int))), none, some (vi (((z + 1 : Nat) : Int))), none] [] (S nw nx g, 78 + gn, c) B0 post) ∧ ((((gD P z).testBit x) = true) → (z < gN P) ∧ ((x < gN P) ∧ ((gL P z < 2147483648) ∧ ((gL P x) + 1 < 2147483648) ∧ (((gL P z ≠ (gL P x) + 1) → SW G (j + 5) mX9_covers 28 [some (vr (49)), some (vi (((x : Nat) : Int))), some (vi (((sd : Nat) : Int))), some (vl (((a ||| 0 : Nat) : Int))), none, some (vi (((z + 1 : Nat) : Int))), none] [] (S nw nx g, 78 + gn, c) B0 post) ∧ ((gL P z = (gL P x) + 1) → (z < 64) ∧ (SW G (j + 5) mX9_covers 28 [some (vr (49)), some (vi (((x : Nat) : Int))), some (vi (((sd : Nat) : Int))), some (vl (((a ||| (1 * 2 ^ z) : Nat) : Int))), none, some (vi (((z + 1 : Nat) : Int))), none] [] (S nw nx g, 78 + gn, c) B0 post)))))))) ∧ ((sd = 0) → (z < gN P) ∧ (x < gN P) ∧ (((((gD P x).testBit z) = false) → SW G (j + 5) mX9_covers 28 [some (vr (49)), some (vi (((x : Nat) : Int))), some (vi (((sd : Nat) : Int))), some (vl (((a ||| 0 : Nat) : Int))), none, some (vi (((z + 1 : Nat) : Int))), none] [] (S nw nx g, 78 + gn, c) B0 post) ∧ ((((gD P x).testBit z) = true) → (z < gN P) ∧ ((x < gN P) ∧ ((gL P z < 2147483648) ∧ (-2147483648 ≤ ((gL P x : Nat) : Int) - 1 ∧ ((gL P x : Nat) : Int) - 1 < 2147483648) ∧ (((((gL P z : Nat) : Int) ≠ ((gL P x : Nat) : Int) - 1) → SW G (j + 5) mX9_covers 28 [some (vr (49)), some (vi (((x : Nat) : Int))), some (vi (((sd : Nat) : Int))), some (vl (((a ||| 0 : Nat) : Int))), none, some (vi (((z + 1 : Nat) : Int))), none] [] (S nw nx g, 78 + gn, c) B0 post) ∧ ((((gL P z : Nat) : Int) = ((gL P x : Nat) : Int) - 1) → (z < 64) ∧ (SW G (j + 5) mX9_covers 28 [some (vr (49)), some (vi (((x : Nat) : Int))), some (vi (((sd : Nat) : Int))), some (vl (((a ||| (1 * 2 ^ z) : Nat) : Int))), none, some (vi (((z + 1 : Nat) : Int))), none] [] (S nw nx g, 78 + gn, c) B0 post)))))))))))) :
    SW G (j + 5) mX9_covers 28 [some (vr (49)), some (vi (((x : Nat) : Int))), some (vi (((sd : Nat) : Int))), some (vl (((a : Nat) : Int))), none, some (vi (((z : Nat) : Int))), none] [] (S nw nx g, 78 + gn, c) B0 post := by
  refine sw_iload (dX9_covers_0.at 17 rfl) rfl ?_
  refine sw_aload_n (dX9_covers_0.at 18 rfl) rfl rfl ?_
  refine sw_getIE (w := ((gN P : Nat) : Int)) (dX9_covers_0.at 19 rfl) fp_X9_196 (S_lt 49 (by decide)) (S_49 nw nx g) rfl hM.1.2.1 ?_
  refine sw_icmpN_ge z (gN P) (tgt := 134) (dX9_covers_0.at 20 rfl) (by decide) hv.1 hv.2.1 (fun q => ?_) (fun q => ?_)
  · replace hv := hv.2.2.1 q
    refine sw_lload_n (dX9_covers_1.at 25 rfl) rfl rfl ?_
    exact sw_lret (dX9_covers_1.at 26 rfl) rfl (Nat.le_refl _) (Nat.le_refl _) hv
  · replace hv := hv.2.2.2 q
    refine sw_iload_n (dX9_covers_0.at 21 rfl) rfl rfl ?_
    refine sw_ifN_ne sd (tgt := 77) (dX9_covers_0.at 22 rfl) (by decide) hv.1 (fun q => ?_) (fun q => ?_)
    · replace hv := hv.2.1 q
      refine sw_aload_n (dX9_covers_0.at 43 rfl) rfl rfl ?_
      refine sw_iload_n (dX9_covers_0.at 44 rfl) rfl rfl ?_
      refine sw_iload (dX9_covers_0.at 45 rfl) rfl ?_
      refine sw_callV (B' := B0) (As := [vi (((x : Nat) : Int)), vi (((z : Nat) : Int))]) (mc := 0) (ms := 0) (dX9_covers_0.at 46 rfl) lk_X9_311 (S_lt 49 (by decide)) (S_49 nw nx g) rfl rfl (Nat.le_of_ble_eq_true rfl) rfl (Nat.le_refl _) (Nat.le_refl _) ?_
      refine c_X9_areBelow (v := x) (w := z) (j := j + 4) hM hV hC hD hv.1 hv.2.1 ?_
      replace hv := hv.2.2
      refine sw_if_eq (tgt := 109) (dX9_covers_0.at 47 rfl) (by decide) (bz_rng _) (fun q => ?_) (fun q => ?_)
      · replace hv := hv.1 (bz_0 q)
        refine sw_iconst (dX9_covers_1.at 11 rfl) ?_
        refine sw_istore (lo' := [some (vr (49)), some (vi (((x : Nat) : Int))), some (vi (((sd : Nat) : Int))), some (vl (((a : Nat) : Int))), none, some (vi (((z : Nat) : Int))), some (vi (0))]) (dX9_covers_1.at 12 rfl) (by decide) rfl ?_
        refine sw_lload_n (dX9_covers_1.at 13 rfl) rfl rfl ?_
        refine sw_iload (dX9_covers_1.at 14 rfl) rfl ?_
        refine sw_if_eq (tgt := 125) (dX9_covers_1.at 15 rfl) (by decide) (by decide) (fun q => ?_) (fun q => ?_)
        · clear q
          refine sw_lconst (z := 0) (dX9_covers_1.at 20 rfl) (by decide) ?_
          refine sw_lorN a 0 (dX9_covers_1.at 21 rfl) ?_
          refine sw_lstore_n (lo' := [some (vr (49)), some (vi (((x : Nat) : Int))), some (vi (((sd : Nat) : Int))), some (vl (((a ||| 0 : Nat) : Int))), none, some (vi (((z : Nat) : Int))), some (vi (0))]) (dX9_covers_1.at 22 rfl) rfl (by decide) rfl ?_
          refine sw_iinc (lo' := [some (vr (49)), some (vi (((x : Nat) : Int))), some (vi (((sd : Nat) : Int))), some (vl (((a ||| 0 : Nat) : Int))), none, some (vi (((z + 1 : Nat) : Int))), some (vi (0))]) (dX9_covers_1.at 23 rfl) rfl (by decide) rfl ?_
          refine sw_goto (tgt := 28) (dX9_covers_1.at 24 rfl) (by decide) ?_
          exact sw_mask (bs := [true, true, true, true, false, true, false]) hv
        · exact absurd q (by decide)
      · replace hv := hv.2 (bz_n0 q)
        refine sw_aload_n (dX9_covers_0.at 48 rfl) rfl rfl ?_
        refine sw_getR (dX9_covers_0.at 49 rfl) fp_X9_32 (S_lt 49 (by decide)) (S_49 nw nx g) rfl rfl ?_
        refine sw_iload (dX9_covers_1.at 0 rfl) rfl ?_
        refine sw_ialdN z (w := ((gL P z : Nat) : Int)) (dX9_covers_1.at 1 rfl) (S_lt 56 (by decide)) (S_56 nw nx g) (by decide) (GV_lt hV hv.1) (ML_L hM hv.1) ?_
        replace hv := hv.2
        refine sw_aload_n (dX9_covers_1.at 2 rfl) rfl rfl ?_
        refine sw_getR (dX9_covers_1.at 3 rfl) fp_X9_32 (S_lt 49 (by decide)) (S_49 nw nx g) rfl rfl ?_
        refine sw_iload_n (dX9_covers_1.at 4 rfl) rfl rfl ?_
        refine sw_ialdN x (w := ((gL P x : Nat) : Int)) (dX9_covers_1.at 5 rfl) (S_lt 56 (by decide)) (S_56 nw nx g) (by decide) (GV_lt hV hv.1) (ML_L hM hv.1) ?_
        replace hv := hv.2
        refine sw_iconst (dX9_covers_1.at 6 rfl) ?_
        refine sw_iadd (dX9_covers_1.at 7 rfl) ?_
        refine sw_topI (y := (((gL P x) + 1 : Nat) : Int)) (by first | rfl | (congr 1)) ?_
        refine sw_icmpN_ne (gL P z) ((gL P x) + 1) (tgt := 109) (dX9_covers_1.at 8 rfl) (by decide) hv.1 hv.2.1 (fun q => ?_) (fun q => ?_)
        · replace hv := hv.2.2.1 q
          refine sw_iconst (dX9_covers_1.at 11 rfl) ?_
          refine sw_istore (lo' := [some (vr (49)), some (vi (((x : Nat) : Int))), some (vi (((sd : Nat) : Int))), some (vl (((a : Nat) : Int))), none, some (vi (((z : Nat) : Int))), some (vi (0))]) (dX9_covers_1.at 12 rfl) (by decide) rfl ?_
          refine sw_lload_n (dX9_covers_1.at 13 rfl) rfl rfl ?_
          refine sw_iload (dX9_covers_1.at 14 rfl) rfl ?_
          refine sw_if_eq (tgt := 125) (dX9_covers_1.at 15 rfl) (by decide) (by decide) (fun q => ?_) (fun q => ?_)
          · clear q
            refine sw_lconst (z := 0) (dX9_covers_1.at 20 rfl) (by decide) ?_
            refine sw_lorN a 0 (dX9_covers_1.at 21 rfl) ?_
            refine sw_lstore_n (lo' := [some (vr (49)), some (vi (((x : Nat) : Int))), some (vi (((sd : Nat) : Int))), some (vl (((a ||| 0 : Nat) : Int))), none, some (vi (((z : Nat) : Int))), some (vi (0))]) (dX9_covers_1.at 22 rfl) rfl (by decide) rfl ?_
            refine sw_iinc (lo' := [some (vr (49)), some (vi (((x : Nat) : Int))), some (vi (((sd : Nat) : Int))), some (vl (((a ||| 0 : Nat) : Int))), none, some (vi (((z + 1 : Nat) : Int))), some (vi (0))]) (dX9_covers_1.at 23 rfl) rfl (by decide) rfl ?_
            refine sw_goto (tgt := 28) (dX9_covers_1.at 24 rfl) (by decide) ?_
            exact sw_mask (bs := [true, true, true, true, false, true, false]) hv
          · exact absurd q (by decide)
        · replace hv := hv.2.2.2 q
          refine sw_iconst (dX9_covers_1.at 9 rfl) ?_
          refine sw_goto (tgt := 110) (dX9_covers_1.at 10 rfl) (by decide) ?_
          refine sw_istore (lo' := [some (vr (49)), some (vi (((x : Nat) : Int))), some (vi (((sd : Nat) : Int))), some (vl (((a : Nat) : Int))), none, some (vi (((z : Nat) : Int))), some (vi (1))]) (dX9_covers_1.at 12 rfl) (by decide) rfl ?_
          refine sw_lload_n (dX9_covers_1.at 13 rfl) rfl rfl ?_
          refine sw_iload (dX9_covers_1.at 14 rfl) rfl ?_
          refine sw_if_eq (tgt := 125) (dX9_covers_1.at 15 rfl) (by decide) (by decide) (fun q => ?_) (fun q => ?_)
          · exact absurd q (by decide)
          · clear q
            refine sw_lconst (z := 1) (dX9_covers_1.at 16 rfl) (by decide) ?_
            refine sw_iload (dX9_covers_1.at 17 rfl) rfl ?_
            refine sw_lshlN 1 z (dX9_covers_1.at 18 rfl) hv.1 ?_
            replace hv := hv.2
            refine sw_goto (tgt := 126) (dX9_covers_1.at 19 rfl) (by decide) ?_
            refine sw_lorN a (1 * 2 ^ z) (dX9_covers_1.at 21 rfl) ?_
            refine sw_lstore_n (lo' := [some (vr (49)), some (vi (((x : Nat) : Int))), some (vi (((sd : Nat) : Int))), some (vl (((a ||| (1 * 2 ^ z) : Nat) : Int))), none, some (vi (((z : Nat) : Int))), some (vi (1))]) (dX9_covers_1.at 22 rfl) rfl (by decide) rfl ?_
            refine sw_iinc (lo' := [some (vr (49)), some (vi (((x : Nat) : Int))), some (vi (((sd : Nat) : Int))), some (vl (((a ||| (1 * 2 ^ z) : Nat) : Int))), none, some (vi (((z + 1 : Nat) : Int))), some (vi (1))]) (dX9_covers_1.at 23 rfl) rfl (by decide) rfl ?_
            refine sw_goto (tgt := 28) (dX9_covers_1.at 24 rfl) (by decide) ?_
            exact sw_mask (bs := [true, true, true, true, false, true, false]) hv
    · replace hv := hv.2.2 q
      refine sw_aload_n (dX9_covers_0.at 23 rfl) rfl rfl ?_
      refine sw_iload (dX9_covers_0.at 24 rfl) rfl ?_
      refine sw_iload_n (dX9_covers_0.at 25 rfl) rfl rfl ?_
      refine sw_callV (B' := B0) (As := [vi (((z : Nat) : Int)), vi (((x : Nat) : Int))]) (mc := 0) (ms := 0) (dX9_covers_0.at 26 rfl) lk_X9_311 (S_lt 49 (by decide)) (S_49 nw nx g) rfl rfl (Nat.le_of_ble_eq_true rfl) rfl (Nat.le_refl _) (Nat.le_refl _) ?_
      refine c_X9_areBelow (v := z) (w := x) (j := j + 4) hM hV hC hD hv.1 hv.2.1 ?_
      replace hv := hv.2.2
      refine sw_if_eq (tgt := 73) (dX9_covers_0.at 27 rfl) (by decide) (bz_rng _) (fun q => ?_) (fun q => ?_)
      · replace hv := hv.1 (bz_0 q)
        refine sw_iconst (dX9_covers_0.at 41 rfl) ?_
        refine sw_goto (tgt := 110) (dX9_covers_0.at 42 rfl) (by decide) ?_
        refine sw_istore (lo' := [some (vr (49)), some (vi (((x : Nat) : Int))), some (vi (((sd : Nat) : Int))), some (vl (((a : Nat) : Int))), none, some (vi (((z : Nat) : Int))), some (vi (0))]) (dX9_covers_1.at 12 rfl) (by decide) rfl ?_
        refine sw_lload_n (dX9_covers_1.at 13 rfl) rfl rfl ?_
        refine sw_iload (dX9_covers_1.at 14 rfl) rfl ?_
        refine sw_if_eq (tgt := 125) (dX9_covers_1.at 15 rfl) (by decide) (by decide) (fun q => ?_) (fun q => ?_)
        · clear q
          refine sw_lconst (z := 0) (dX9_covers_1.at 20 rfl) (by decide) ?_
          refine sw_lorN a 0 (dX9_covers_1.at 21 rfl) ?_
          refine sw_lstore_n (lo' := [some (vr (49)), some (vi (((x : Nat) : Int))), some (vi (((sd : Nat) : Int))), some (vl (((a ||| 0 : Nat) : Int))), none, some (vi (((z : Nat) : Int))), some (vi (0))]) (dX9_covers_1.at 22 rfl) rfl (by decide) rfl ?_
          refine sw_iinc (lo' := [some (vr (49)), some (vi (((x : Nat) : Int))), some (vi (((sd : Nat) : Int))), some (vl (((a ||| 0 : Nat) : Int))), none, some (vi (((z + 1 : Nat) : Int))), some (vi (0))]) (dX9_covers_1.at 23 rfl) rfl (by decide) rfl ?_
          refine sw_goto (tgt := 28) (dX9_covers_1.at 24 rfl) (by decide) ?_
          exact sw_mask (bs := [true, true, true, true, false, true, false]) hv
        · exact absurd q (by decide)
      · replace hv := hv.2 (bz_n0 q)
        refine sw_aload_n (dX9_covers_0.at 28 rfl) rfl rfl ?_
        refine sw_getR (dX9_covers_0.at 29 rfl) fp_X9_32 (S_lt 49 (by decide)) (S_49 nw nx g) rfl rfl ?_
        refine sw_iload (dX9_covers_0.at 30 rfl) rfl ?_
        refine sw_ialdN z (w := ((gL P z : Nat) : Int)) (dX9_covers_0.at 31 rfl) (S_lt 56 (by decide)) (S_56 nw nx g) (by decide) (GV_lt hV hv.1) (ML_L hM hv.1) ?_
        replace hv := hv.2
        refine sw_aload_n (dX9_covers_0.at 32 rfl) rfl rfl ?_
        refine sw_getR (dX9_covers_0.at 33 rfl) fp_X9_32 (S_lt 49 (by decide)) (S_49 nw nx g) rfl rfl ?_
        refine sw_iload_n (dX9_covers_0.at 34 rfl) rfl rfl ?_
        refine sw_ialdN x (w := ((gL P x : Nat) : Int)) (dX9_covers_0.at 35 rfl) (S_lt 56 (by decide)) (S_56 nw nx g) (by decide) (GV_lt hV hv.1) (ML_L hM hv.1) ?_
        replace hv := hv.2
        refine sw_iconst (dX9_covers_0.at 36 rfl) ?_
        refine sw_isub (dX9_covers_0.at 37 rfl) ?_
        refine sw_icmp_ne (tgt := 73) (dX9_covers_0.at 38 rfl) (by decide) (nrng hv.1) hv.2.1 (fun q => ?_) (fun q => ?_)
        · replace hv := hv.2.2.1 q
          refine sw_iconst (dX9_covers_0.at 41 rfl) ?_
          refine sw_goto (tgt := 110) (dX9_covers_0.at 42 rfl) (by decide) ?_
          refine sw_istore (lo' := [some (vr (49)), some (vi (((x : Nat) : Int))), some (vi (((sd : Nat) : Int))), some (vl (((a : Nat) : Int))), none, some (vi (((z : Nat) : Int))), some (vi (0))]) (dX9_covers_1.at 12 rfl) (by decide) rfl ?_
          refine sw_lload_n (dX9_covers_1.at 13 rfl) rfl rfl ?_
          refine sw_iload (dX9_covers_1.at 14 rfl) rfl ?_
          refine sw_if_eq (tgt := 125) (dX9_covers_1.at 15 rfl) (by decide) (by decide) (fun q => ?_) (fun q => ?_)
          · clear q
            refine sw_lconst (z := 0) (dX9_covers_1.at 20 rfl) (by decide) ?_
            refine sw_lorN a 0 (dX9_covers_1.at 21 rfl) ?_
            refine sw_lstore_n (lo' := [some (vr (49)), some (vi (((x : Nat) : Int))), some (vi (((sd : Nat) : Int))), some (vl (((a ||| 0 : Nat) : Int))), none, some (vi (((z : Nat) : Int))), some (vi (0))]) (dX9_covers_1.at 22 rfl) rfl (by decide) rfl ?_
            refine sw_iinc (lo' := [some (vr (49)), some (vi (((x : Nat) : Int))), some (vi (((sd : Nat) : Int))), some (vl (((a ||| 0 : Nat) : Int))), none, some (vi (((z + 1 : Nat) : Int))), some (vi (0))]) (dX9_covers_1.at 23 rfl) rfl (by decide) rfl ?_
            refine sw_goto (tgt := 28) (dX9_covers_1.at 24 rfl) (by decide) ?_
            exact sw_mask (bs := [true, true, true, true, false, true, false]) hv
          · exact absurd q (by decide)
        · replace hv := hv.2.2.2 q
          refine sw_iconst (dX9_covers_0.at 39 rfl) ?_
          refine sw_goto (tgt := 110) (dX9_covers_0.at 40 rfl) (by decide) ?_
          refine sw_istore (lo' := [some (vr (49)), some (vi (((x : Nat) : Int))), some (vi (((sd : Nat) : Int))), some (vl (((a : Nat) : Int))), none, some (vi (((z : Nat) : Int))), some (vi (1))]) (dX9_covers_1.at 12 rfl) (by decide) rfl ?_
          refine sw_lload_n (dX9_covers_1.at 13 rfl) rfl rfl ?_
          refine sw_iload (dX9_covers_1.at 14 rfl) rfl ?_
          refine sw_if_eq (tgt := 125) (dX9_covers_1.at 15 rfl) (by decide) (by decide) (fun q => ?_) (fun q => ?_)
          · exact absurd q (by decide)
          · clear q
            refine sw_lconst (z := 1) (dX9_covers_1.at 16 rfl) (by decide) ?_
            refine sw_iload (dX9_covers_1.at 17 rfl) rfl ?_
            refine sw_lshlN 1 z (dX9_covers_1.at 18 rfl) hv.1 ?_
            replace hv := hv.2
            refine sw_goto (tgt := 126) (dX9_covers_1.at 19 rfl) (by decide) ?_
            refine sw_lorN a (1 * 2 ^ z) (dX9_covers_1.at 21 rfl) ?_
            refine sw_lstore_n (lo' := [some (vr (49)), some (vi (((x : Nat) : Int))), some (vi (((sd : Nat) : Int))), some (vl (((a ||| (1 * 2 ^ z) : Nat) : Int))), none, some (vi (((z : Nat) : Int))), some (vi (1))]) (dX9_covers_1.at 22 rfl) rfl (by decide) rfl ?_
            refine sw_iinc (lo' := [some (vr (49)), some (vi (((x : Nat) : Int))), some (vi (((sd : Nat) : Int))), some (vl (((a ||| (1 * 2 ^ z) : Nat) : Int))), none, some (vi (((z + 1 : Nat) : Int))), some (vi (1))]) (dX9_covers_1.at 23 rfl) rfl (by decide) rfl ?_
            refine sw_goto (tgt := 28) (dX9_covers_1.at 24 rfl) (by decide) ?_
            exact sw_mask (bs := [true, true, true, true, false, true, false]) hv

set_option maxHeartbeats 4000000 in
theorem lp_X9_covers_28 {G : GG} {j nw nx gn : Nat} {g : Nat → Sh} {c : Nat → Nat → Int} {post : Option AV → AM → Prop} {P : GD} {T : PT} {x : Nat} {sd : Nat} (hM : ML c P) (hV : GV P) (hC : GC P) (hD : PD P T c) (hx : x < gN P) (hsd : sd < 2) : ∀ (k : Nat) (z : Nat) (a : Nat), z + k = gN P → (post (some (vl (((bitD (bCov P x sd) k z a : Nat) : Int)))) (S nw nx g, 78 + gn, c)) → SW G (j + 5) mX9_covers 28 [some (vr (49)), some (vi (((x : Nat) : Int))), some (vi (((sd : Nat) : Int))), some (vl (((a : Nat) : Int))), none, some (vi (((z : Nat) : Int))), none] [] (S nw nx g, 78 + gn, c) B0 post := by
  intro k
  induction k with
  | zero =>
    intro z a hrel  K
    have h60 := GV_N hV
    rw [bitD] at K
    refine g_X9_covers_28 hM hV hC hD ?_
    refine ⟨?_, ?_, ⟨fun q => ?_, fun q => ⟨?_, ⟨fun q => ⟨?_, ?_, ⟨fun q => ?_, fun q => ⟨?_, ⟨?_, ⟨?_, ?_, ⟨fun q => ?_, fun q => ⟨?_, ?_⟩⟩⟩⟩⟩⟩⟩, fun q => ⟨?_, ?_, ⟨fun q => ?_, fun q => ⟨?_, ⟨?_, ⟨?_, ?_, ⟨fun q => ?_, fun q => ⟨?_, ?_⟩⟩⟩⟩⟩⟩⟩⟩⟩⟩⟩
    all_goals first | omega | exact K | (exfalso; omega)
  | succ k ih =>
    intro z a hrel  K
    have h60 := GV_N hV
    have l1 := (hV.2.2.1 x hx).1
    have l2 := (hV.2.2.1 z (by omega)).1
    rw [bitD] at K
    refine g_X9_covers_28 hM hV hC hD ?_
    refine ⟨?_, ?_, ⟨fun q => ?_, fun q => ⟨?_, ⟨fun q => ⟨?_, ?_, ⟨fun q => ?_, fun q => ⟨?_, ⟨?_, ⟨?_, ?_, ⟨fun q => ?_, fun q => ⟨?_, ?_⟩⟩⟩⟩⟩⟩⟩, fun q => ⟨?_, ?_, ⟨fun q => ?_, fun q => ⟨?_, ⟨?_, ⟨?_, ?_, ⟨fun q => ?_, fun q => ⟨?_, ?_⟩⟩⟩⟩⟩⟩⟩⟩⟩⟩⟩
    all_goals first | omega | assumption | (exfalso; omega) | (have e7 : bCov P x sd z = true := (by first | (rw [bCov, if_pos (by omega), gCov, decide_eq_true (by omega), ‹(gD P x).testBit z = true›]; rfl) | (rw [bCov, if_neg (by omega), gCov, decide_eq_true (by omega), ‹(gD P z).testBit x = true›]; rfl)); rw [if_pos e7] at K; exact ih _ _ (by omega) K) | (have e7 : bCov P x sd z = false := (by first | (rw [bCov, if_pos (by omega), gCov, ‹(gD P x).testBit z = false›, Bool.and_false]) | (rw [bCov, if_pos (by omega), gCov, decide_eq_false (by omega), Bool.false_and]) | (rw [bCov, if_neg (by omega), gCov, ‹(gD P z).testBit x = false›, Bool.and_false]) | (rw [bCov, if_neg (by omega), gCov, decide_eq_false (by omega), Bool.false_and])); rw [if_neg (by rw [e7]; decide)] at K; exact ih _ _ (by omega) K)

set_option maxHeartbeats 2000000 in
set_option maxRecDepth 20000 in
theorem g_X9_covers_0n {G : GG} {j nw nx gn : Nat} {g : Nat → Sh} {c : Nat → Nat → Int} {post : Option AV → AM → Prop} {x : Nat} {sd : Nat} {P : GD} {T : PT} (hM : ML c P) (hV : GV P) (hC : GC P) (hG : GP P T) (hR : RR P T c)  (hv : (x < gN P) ∧ (x < gN P) ∧ (∀ c_1 : Nat → Nat → Int, (SD c c_1 ∧ RD P T c_1) → (sd < 2147483648) ∧ ((-9223372036854775808 ≤ (((sd : Nat) : Int) : Int) ∧ (((sd : Nat) : Int) : Int) < 9223372036854775808) ∧ (-9223372036854775808 ≤ (0 : Int) ∧ (0 : Int) < 9223372036854775808) ∧ (-9223372036854775808 ≤ (1 : Int) ∧ (1 : Int) < 9223372036854775808) ∧ ((((decide (0 ≤ ((sd : Nat) : Int) ∧ ((sd : Nat) : Int) ≤ 1)) = true) → SW G (j + 5) mX9_covers 28 [some (vr (49)), some (vi (((x : Nat) : Int))), some (vi (((sd : Nat) : Int))), some (vl (0)), none, some (vi (0)), none] [] (S nw nx g, 78 + gn, c_1) B0 post) ∧ (((decide (0 ≤ ((sd : Nat) : Int) ∧ ((sd : Nat) : Int) ≤ 1)) = false) → post (some (vl ((-2)))) (S nw nx g, 78 + gn, c_1)))))) :
    SW G (j + 5) mX9_covers 0 [some (vr (49)), some (vi (((x : Nat) : Int))), some (vi (((sd : Nat) : Int))), none, none, none, none] [] (S nw nx g, 78 + gn, c) B0 post := by
  refine sw_aload_n (dX9_covers_0.at 0 rfl) rfl rfl ?_
  refine sw_iload_n (dX9_covers_0.at 1 rfl) rfl rfl ?_
  refine sw_iload_n (dX9_covers_0.at 2 rfl) rfl rfl ?_
  refine sw_callV (B' := B0) (As := [vi (((x : Nat) : Int)), vi (((x : Nat) : Int))]) (mc := 0) (ms := 0) (dX9_covers_0.at 3 rfl) lk_X9_308 (S_lt 49 (by decide)) (S_49 nw nx g) rfl rfl (Nat.le_of_ble_eq_true rfl) rfl (Nat.le_refl _) (Nat.le_refl _) ?_
  refine c_X9_arePairY (x := x) (y := x) (j := j + 0) hM hV hC hG hR hv.1 hv.2.1 (fun c_1 h_1 => ?_)
  replace hv := hv.2.2 c_1 h_1
  refine sw_if_eq (tgt := 19) (dX9_covers_0.at 4 rfl) (by decide) (by decide) (fun q => ?_) (fun q => ?_)
  · exact absurd q (by decide)
  · clear q
    refine sw_iload_n (dX9_covers_0.at 5 rfl) rfl rfl ?_
    refine sw_i2l (dX9_covers_0.at 6 rfl) (nrng hv.1) ?_
    replace hv := hv.2
    refine sw_lconst (z := 0) (dX9_covers_0.at 7 rfl) (by decide) ?_
    refine sw_lconst (z := 1) (dX9_covers_0.at 8 rfl) (by decide) ?_
    refine sw_callS (post' := post) (B' := B0) (As := [vl (((sd : Nat) : Int)), vl (0), vl (1)]) (mc := 0) (ms := 0) (dX9_covers_0.at 9 rfl) lk_X9_104 rfl rfl (Nat.le_of_ble_eq_true rfl) rfl (Nat.le_refl _) (Nat.le_refl _) ?_
    refine c_X9_in (u := ((sd : Nat) : Int)) (lo := 0) (hi := 1) (j := j + 4) hv.1 hv.2.1 hv.2.2.1 ?_
    replace hv := hv.2.2.2
    refine sw_if_ne (tgt := 23) (dX9_covers_0.at 10 rfl) (by decide) (bz_rng _) (fun q => ?_) (fun q => ?_)
    · replace hv := hv.1 (bz_1 q)
      refine sw_lconst (z := 0) (dX9_covers_0.at 13 rfl) (by decide) ?_
      refine sw_lstore_n (lo' := [some (vr (49)), some (vi (((x : Nat) : Int))), some (vi (((sd : Nat) : Int))), some (vl (0)), none, none, none]) (dX9_covers_0.at 14 rfl) rfl (by decide) rfl ?_
      refine sw_iconst (dX9_covers_0.at 15 rfl) ?_
      refine sw_istore (lo' := [some (vr (49)), some (vi (((x : Nat) : Int))), some (vi (((sd : Nat) : Int))), some (vl (0)), none, some (vi (0)), none]) (dX9_covers_0.at 16 rfl) (by decide) rfl ?_
      exact hv
    · replace hv := hv.2 (bz_n1 q)
      refine sw_ldc2 (z := (-2)) (dX9_covers_0.at 11 rfl) kc_X9_259 (by decide) ?_
      exact sw_lret (dX9_covers_0.at 12 rfl) rfl (Nat.le_refl _) (Nat.le_refl _) hv

set_option maxHeartbeats 2000000 in
set_option maxRecDepth 20000 in
theorem g_X9_covers_0 {G : GG} {j nw nx gn : Nat} {g : Nat → Sh} {c : Nat → Nat → Int} {post : Option AV → AM → Prop} {x : Int} {sd : Int} {P : GD} {T : PT} (hM : ML c P) (hV : GV P) (hC : GC P) (hG : GP P T) (hR : RR P T c)  (hv : (-2147483648 ≤ x ∧ x < 2147483648) ∧ (-2147483648 ≤ x ∧ x < 2147483648) ∧ (∀ c_1 : Nat → Nat → Int, (SD c c_1 ∧ RR P T c_1) → (((decide ((0 ≤ x ∧ x < (gN P : Int)) ∧ 0 ≤ x ∧ x < (gN P : Int))) = false) → post (some (vl ((-2)))) (S nw nx g, 78 + gn, c_1)) ∧ (((decide ((0 ≤ x ∧ x < (gN P : Int)) ∧ 0 ≤ x ∧ x < (gN P : Int))) = true) → (-2147483648 ≤ sd ∧ sd < 2147483648) ∧ ((-9223372036854775808 ≤ (sd : Int) ∧ (sd : Int) < 9223372036854775808) ∧ (-9223372036854775808 ≤ (0 : Int) ∧ (0 : Int) < 9223372036854775808) ∧ (-9223372036854775808 ≤ (1 : Int) ∧ (1 : Int) < 9223372036854775808) ∧ ((((decide (0 ≤ sd ∧ sd ≤ 1)) = true) → SW G (j + 5) mX9_covers 28 [some (vr (49)), some (vi (x)), some (vi (sd)), some (vl (0)), none, some (vi (0)), none] [] (S nw nx g, 78 + gn, c_1) B0 post) ∧ (((decide (0 ≤ sd ∧ sd ≤ 1)) = false) → post (some (vl ((-2)))) (S nw nx g, 78 + gn, c_1))))))) :
    SW G (j + 5) mX9_covers 0 [some (vr (49)), some (vi (x)), some (vi (sd)), none, none, none, none] [] (S nw nx g, 78 + gn, c) B0 post := by
  refine sw_aload_n (dX9_covers_0.at 0 rfl) rfl rfl ?_
  refine sw_iload_n (dX9_covers_0.at 1 rfl) rfl rfl ?_
  refine sw_iload_n (dX9_covers_0.at 2 rfl) rfl rfl ?_
  refine sw_callV (B' := B0) (As := [vi (x), vi (x)]) (mc := 0) (ms := 0) (dX9_covers_0.at 3 rfl) lk_X9_308 (S_lt 49 (by decide)) (S_49 nw nx g) rfl rfl (Nat.le_of_ble_eq_true rfl) rfl (Nat.le_refl _) (Nat.le_refl _) ?_
  refine c_X9_arePairG (x := x) (y := x) (j := j + 0) hM hV hC hG hR hv.1 hv.2.1 (fun c_1 h_1 => ?_)
  replace hv := hv.2.2 c_1 h_1
  refine sw_if_eq (tgt := 19) (dX9_covers_0.at 4 rfl) (by decide) (bz_rng _) (fun q => ?_) (fun q => ?_)
  · replace hv := hv.1 (bz_0 q)
    refine sw_ldc2 (z := (-2)) (dX9_covers_0.at 11 rfl) kc_X9_259 (by decide) ?_
    exact sw_lret (dX9_covers_0.at 12 rfl) rfl (Nat.le_refl _) (Nat.le_refl _) hv
  · replace hv := hv.2 (bz_n0 q)
    refine sw_iload_n (dX9_covers_0.at 5 rfl) rfl rfl ?_
    refine sw_i2l (dX9_covers_0.at 6 rfl) hv.1 ?_
    replace hv := hv.2
    refine sw_lconst (z := 0) (dX9_covers_0.at 7 rfl) (by decide) ?_
    refine sw_lconst (z := 1) (dX9_covers_0.at 8 rfl) (by decide) ?_
    refine sw_callS (post' := post) (B' := B0) (As := [vl (sd), vl (0), vl (1)]) (mc := 0) (ms := 0) (dX9_covers_0.at 9 rfl) lk_X9_104 rfl rfl (Nat.le_of_ble_eq_true rfl) rfl (Nat.le_refl _) (Nat.le_refl _) ?_
    refine c_X9_in (u := sd) (lo := 0) (hi := 1) (j := j + 4) hv.1 hv.2.1 hv.2.2.1 ?_
    replace hv := hv.2.2.2
    refine sw_if_ne (tgt := 23) (dX9_covers_0.at 10 rfl) (by decide) (bz_rng _) (fun q => ?_) (fun q => ?_)
    · replace hv := hv.1 (bz_1 q)
      refine sw_lconst (z := 0) (dX9_covers_0.at 13 rfl) (by decide) ?_
      refine sw_lstore_n (lo' := [some (vr (49)), some (vi (x)), some (vi (sd)), some (vl (0)), none, none, none]) (dX9_covers_0.at 14 rfl) rfl (by decide) rfl ?_
      refine sw_iconst (dX9_covers_0.at 15 rfl) ?_
      refine sw_istore (lo' := [some (vr (49)), some (vi (x)), some (vi (sd)), some (vl (0)), none, some (vi (0)), none]) (dX9_covers_0.at 16 rfl) (by decide) rfl ?_
      exact hv
    · replace hv := hv.2 (bz_n1 q)
      refine sw_ldc2 (z := (-2)) (dX9_covers_0.at 11 rfl) kc_X9_259 (by decide) ?_
      exact sw_lret (dX9_covers_0.at 12 rfl) rfl (Nat.le_refl _) (Nat.le_refl _) hv

set_option maxHeartbeats 4000000 in
theorem c_X9_covers {G : GG} {j nw nx gn : Nat} {g : Nat → Sh} {c : Nat → Nat → Int} {post : Option AV → AM → Prop} {P : GD} {T : PT} {x sd : Int} (hM : ML c P) (hV : GV P) (hC : GC P) (hG : GP P T) (hR : RR P T c) (p1 : -2147483648 ≤ x ∧ x < 2147483648) (p2 : -2147483648 ≤ sd ∧ sd < 2147483648) (K : ∀ c2 : Nat → Nat → Int, (SD c c2 ∧ RR P T c2) → post (some (vl (q_covers P x sd))) (S nw nx g, 78 + gn, c2)) : SM G (j + 6) mX9_covers [vr (49), vi (x), vi (sd)] (S nw nx g, 78 + gn, c) 0 0 post := by
  refine sm_of wX9_covers rfl (Nat.le_of_ble_eq_true rfl) ?_
  have hN60 := GV_N hV
  have hR5 := GV_R hV
  by_cases hv : 0 ≤ x ∧ x < (gN P : Int) ∧ 0 ≤ sd ∧ sd < 2
  · obtain ⟨x, rfl⟩ : ∃ n : Nat, x = (n : Int) := ⟨x.toNat, by omega⟩
    obtain ⟨sd, rfl⟩ : ∃ n : Nat, sd = (n : Int) := ⟨sd.toNat, by omega⟩
    have e : q_covers P ((x : Nat) : Int) ((sd : Nat) : Int) = ((bitsU (bCov P x sd) (gN P) : Nat) : Int) := by
      rw [q_covers, if_pos hv]
      simp only [Int.toNat_natCast]
    rw [e] at K
    have K1 : ∀ (z : Int) (c2 : Nat → Nat → Int), ((SD c c2 ∧ RR P T c2)) → z = (((bitsU (bCov P x sd) (gN P) : Nat) : Int)) → post (some (vl z)) (S nw nx g, 78 + gn, c2) := fun z c2 h e9 => e9 ▸ K c2 h
    have hx : x < gN P := by omega
    have fx := hV.2.2.1 x hx
    refine g_X9_covers_0n hM hV hC hG hR ?_
    refine ⟨?_, ?_, fun c_1 h_1 => ⟨?_, ⟨?_, ?_, ?_, ⟨fun q => ?_, fun q => ?_⟩⟩⟩⟩
    all_goals first | omega | assumption | (exfalso; simp only [decide_eq_true_eq, decide_eq_false_iff_not] at *; omega) | exact lp_X9_covers_28 (ML_SD hM h_1.1) hV hC h_1.2.2 hx (by omega) (gN P) 0 0 (by omega) (by rw [bitD_U]; exact (K c_1 ⟨h_1.1, Or.inr h_1.2⟩)) | exact K _ (by first | exact ⟨SD_rf, hR⟩ | exact ⟨h_1.1, Or.inr h_1.2⟩ | assumption | exact ⟨SD_tr h_1.1 (SD_SC h_2), Or.inr (RD_SC h_1.2 h_2)⟩ | exact ⟨SD_tr h_1.1 (SD_SC (SC_tr h_2 h_3)), Or.inr (RD_SC h_1.2 (SC_tr h_2 h_3))⟩) | (refine K1 _ _ (by first | exact ⟨SD_rf, hR⟩ | exact ⟨h_1.1, Or.inr h_1.2⟩ | assumption | exact ⟨SD_tr h_1.1 (SD_SC h_2), Or.inr (RD_SC h_1.2 h_2)⟩ | exact ⟨SD_tr h_1.1 (SD_SC (SC_tr h_2 h_3)), Or.inr (RD_SC h_1.2 (SC_tr h_2 h_3))⟩) ?_; first | rfl | (simp [bz, *]; done) | (split <;> first | rfl | omega))
  · have e : q_covers P x sd = (-2) := by rw [q_covers, if_neg hv]
    rw [e] at K
    have K1 : ∀ (z : Int) (c2 : Nat → Nat → Int), ((SD c c2 ∧ RR P T c2)) → z = ((-2)) → post (some (vl z)) (S nw nx g, 78 + gn, c2) := fun z c2 h e9 => e9 ▸ K c2 h
    refine g_X9_covers_0 hM hV hC hG hR ?_
    refine ⟨?_, ?_, fun c_1 h_1 => ⟨fun q => ?_, fun q => ⟨?_, ⟨?_, ?_, ?_, ⟨fun q => ?_, fun q => ?_⟩⟩⟩⟩⟩
    all_goals first | omega | assumption | (exfalso; simp only [decide_eq_true_eq, decide_eq_false_iff_not] at *; omega) | exact K _ (by first | exact ⟨SD_rf, hR⟩ | exact ⟨h_1.1, Or.inr h_1.2⟩ | assumption | exact ⟨SD_tr h_1.1 (SD_SC h_2), Or.inr (RD_SC h_1.2 h_2)⟩ | exact ⟨SD_tr h_1.1 (SD_SC (SC_tr h_2 h_3)), Or.inr (RD_SC h_1.2 (SC_tr h_2 h_3))⟩) | (refine K1 _ _ (by first | exact ⟨SD_rf, hR⟩ | exact ⟨h_1.1, Or.inr h_1.2⟩ | assumption | exact ⟨SD_tr h_1.1 (SD_SC h_2), Or.inr (RD_SC h_1.2 h_2)⟩ | exact ⟨SD_tr h_1.1 (SD_SC (SC_tr h_2 h_3)), Or.inr (RD_SC h_1.2 (SC_tr h_2 h_3))⟩) ?_; first | rfl | (simp [bz, *]; done) | (split <;> first | rfl | omega))

