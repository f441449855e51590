set_option maxHeartbeats 2000000 in
set_option maxRecDepth 20000 in
theorem g_X9_idealBits_19 {G : GG} {j nw nx gn : Nat} {g : Nat → Sh} {c : Nat → Nat → Int} {post : Option AV → AM → Prop} {P : GD} {T : PT} {T9 : Nat} {x : Nat} {y : Nat} {a : Nat} (hM : ML c P) (hV : GV P) (hC : GC P) (hD : PD P T c) (hT9 : c 49 38 = ((T9 : Nat) : Int))  (hv : (y < 2147483648) ∧ (gN P < 2147483648) ∧ (((gN P ≤ y) → SW G (j + 4) mX9_idealBits 8 [some (vr (49)), some (vl (((a : Nat) : Int))), none, some (vi (((x + 1 : Nat) : Int))), none] [] (S nw nx g, 78 + gn, c) B0 post) ∧ ((¬ (gN P ≤ y)) → (T9 < 9223372036854775808) ∧ (y < 64) ∧ ((((T9.testBit y) = false) → SW G (j + 4) mX9_idealBits 19 [some (vr (49)), some (vl (((a ||| 0 : Nat) : Int))), none, some (vi (((x : Nat) : Int))), some (vi (((y + 1 : Nat) : Int)))] [] (S nw nx g, 78 + gn, c) B0 post) ∧ (((T9.testBit y) = true) → (x < gN P) ∧ (y < gN P) ∧ (((((gD P y).testBit x) = false) → SW G (j + 4) mX9_idealBits 19 [some (vr (49)), some (vl (((a ||| 0 : Nat) : Int))), none, some (vi (((x : Nat) : Int))), some (vi (((y + 1 : Nat) : Int)))] [] (S nw nx g, 78 + gn, c) B0 post) ∧ ((((gD P y).testBit x) = true) → (x < 64) ∧ (SW G (j + 4) mX9_idealBits 19 [some (vr (49)), some (vl (((a ||| (1 * 2 ^ x) : Nat) : Int))), none, some (vi (((x : Nat) : Int))), some (vi (((y + 1 : Nat) : Int)))] [] (S nw nx g, 78 + gn, c) B0 post)))))))) :
    SW G (j + 4) mX9_idealBits 19 [some (vr (49)), some (vl (((a : Nat) : Int))), none, some (vi (((x : Nat) : Int))), some (vi (((y : Nat) : Int)))] [] (S nw nx g, 78 + gn, c) B0 post := by
  refine sw_iload (dX9_idealBits.at 12 rfl) rfl ?_
  refine sw_aload_n (dX9_idealBits.at 13 rfl) rfl rfl ?_
  refine sw_getIE (w := ((gN P : Nat) : Int)) (dX9_idealBits.at 14 rfl) fp_X9_196 (S_lt 49 (by decide)) (S_49 nw nx g) rfl hM.1.2.1 ?_
  refine sw_icmpN_ge y (gN P) (tgt := 66) (dX9_idealBits.at 15 rfl) (by decide) hv.1 hv.2.1 (fun q => ?_) (fun q => ?_)
  · replace hv := hv.2.2.1 q
    refine sw_iinc (lo' := [some (vr (49)), some (vl (((a : Nat) : Int))), none, some (vi (((x + 1 : Nat) : Int))), some (vi (((y : Nat) : Int)))]) (dX9_idealBits.at 36 rfl) rfl (by decide) rfl ?_
    refine sw_goto (tgt := 8) (dX9_idealBits.at 37 rfl) (by decide) ?_
    exact sw_mask (bs := [true, true, false, true, false]) hv
  · replace hv := hv.2.2.2 q
    refine sw_lload_n (dX9_idealBits.at 16 rfl) rfl rfl ?_
    refine sw_aload_n (dX9_idealBits.at 17 rfl) rfl rfl ?_
    refine sw_getLE (w := ((T9 : Nat) : Int)) (dX9_idealBits.at 18 rfl) fp_X9_202 (S_lt 49 (by decide)) (S_49 nw nx g) rfl hT9 ?_
    refine sw_iload (dX9_idealBits.at 19 rfl) rfl ?_
    refine sw_callS (post' := post) (B' := B0) (As := [vl (((T9 : Nat) : Int)), vi (((y : Nat) : Int))]) (mc := 0) (ms := 0) (dX9_idealBits.at 20 rfl) lk_X9_240 rfl rfl (Nat.le_of_ble_eq_true rfl) rfl (Nat.le_refl _) (Nat.le_refl _) ?_
    refine c_X9_has (s := T9) (i := y) (j := j + 3) hv.1 hv.2.1 ?_
    replace hv := hv.2.2
    refine sw_if_eq (tgt := 57) (dX9_idealBits.at 21 rfl) (by decide) (bz_rng _) (fun q => ?_) (fun q => ?_)
    · replace hv := hv.1 (bz_0 q)
      refine sw_lconst (z := 0) (dX9_idealBits.at 31 rfl) (by decide) ?_
      refine sw_lorN a 0 (dX9_idealBits.at 32 rfl) ?_
      refine sw_lstore_n (lo' := [some (vr (49)), some (vl (((a ||| 0 : Nat) : Int))), none, some (vi (((x : Nat) : Int))), some (vi (((y : Nat) : Int)))]) (dX9_idealBits.at 33 rfl) rfl (by decide) rfl ?_
      refine sw_iinc (lo' := [some (vr (49)), some (vl (((a ||| 0 : Nat) : Int))), none, some (vi (((x : Nat) : Int))), some (vi (((y + 1 : Nat) : Int)))]) (dX9_idealBits.at 34 rfl) rfl (by decide) rfl ?_
      refine sw_goto (tgt := 19) (dX9_idealBits.at 35 rfl) (by decide) ?_
      exact hv
    · replace hv := hv.2 (bz_n0 q)
      refine sw_aload_n (dX9_idealBits.at 22 rfl) rfl rfl ?_
      refine sw_iload_n (dX9_idealBits.at 23 rfl) rfl rfl ?_
      refine sw_iload (dX9_idealBits.at 24 rfl) rfl ?_
      refine sw_callV (B' := B0) (As := [vi (((x : Nat) : Int)), vi (((y : Nat) : Int))]) (mc := 0) (ms := 0) (dX9_idealBits.at 25 rfl) lk_X9_311 (S_lt 49 (by decide)) (S_49 nw nx g) rfl rfl (Nat.le_of_ble_eq_true rfl) rfl (Nat.le_refl _) (Nat.le_refl _) ?_
      refine c_X9_areBelow (v := x) (w := y) (j := j + 3) hM hV hC hD hv.1 hv.2.1 ?_
      replace hv := hv.2.2
      refine sw_if_eq (tgt := 57) (dX9_idealBits.at 26 rfl) (by decide) (bz_rng _) (fun q => ?_) (fun q => ?_)
      · replace hv := hv.1 (bz_0 q)
        refine sw_lconst (z := 0) (dX9_idealBits.at 31 rfl) (by decide) ?_
        refine sw_lorN a 0 (dX9_idealBits.at 32 rfl) ?_
        refine sw_lstore_n (lo' := [some (vr (49)), some (vl (((a ||| 0 : Nat) : Int))), none, some (vi (((x : Nat) : Int))), some (vi (((y : Nat) : Int)))]) (dX9_idealBits.at 33 rfl) rfl (by decide) rfl ?_
        refine sw_iinc (lo' := [some (vr (49)), some (vl (((a ||| 0 : Nat) : Int))), none, some (vi (((x : Nat) : Int))), some (vi (((y + 1 : Nat) : Int)))]) (dX9_idealBits.at 34 rfl) rfl (by decide) rfl ?_
        refine sw_goto (tgt := 19) (dX9_idealBits.at 35 rfl) (by decide) ?_
        exact hv
      · replace hv := hv.2 (bz_n0 q)
        refine sw_lconst (z := 1) (dX9_idealBits.at 27 rfl) (by decide) ?_
        refine sw_iload_n (dX9_idealBits.at 28 rfl) rfl rfl ?_
        refine sw_lshlN 1 x (dX9_idealBits.at 29 rfl) hv.1 ?_
        replace hv := hv.2
        refine sw_goto (tgt := 58) (dX9_idealBits.at 30 rfl) (by decide) ?_
        refine sw_lorN a (1 * 2 ^ x) (dX9_idealBits.at 32 rfl) ?_
        refine sw_lstore_n (lo' := [some (vr (49)), some (vl (((a ||| (1 * 2 ^ x) : Nat) : Int))), none, some (vi (((x : Nat) : Int))), some (vi (((y : Nat) : Int)))]) (dX9_idealBits.at 33 rfl) rfl (by decide) rfl ?_
        refine sw_iinc (lo' := [some (vr (49)), some (vl (((a ||| (1 * 2 ^ x) : Nat) : Int))), none, some (vi (((x : Nat) : Int))), some (vi (((y + 1 : Nat) : Int)))]) (dX9_idealBits.at 34 rfl) rfl (by decide) rfl ?_
        refine sw_goto (tgt := 19) (dX9_idealBits.at 35 rfl) (by decide) ?_
        exact hv

set_option maxHeartbeats 4000000 in
theorem lp_X9_idealBits_19 {G : GG} {j nw nx gn : Nat} {g : Nat → Sh} {c : Nat → Nat → Int} {post : Option AV → AM → Prop} {P : GD} {T : PT} {T9 : Nat} {x : Nat} (hM : ML c P) (hV : GV P) (hC : GC P) (hD : PD P T c) (hT9 : c 49 38 = ((T9 : Nat) : Int)) (hx : x < gN P) (h2 : T9 < 2 ^ 60) : ∀ (k : Nat) (y : Nat) (a : Nat), y + k = gN P → (SW G (j + 4) mX9_idealBits 8 [some (vr (49)), some (vl (((ibY P T9 x k y a : Nat) : Int))), none, some (vi (((x + 1 : Nat) : Int))), none] [] (S nw nx g, 78 + gn, c) B0 post) → SW G (j + 4) mX9_idealBits 19 [some (vr (49)), some (vl (((a : Nat) : Int))), none, some (vi (((x : Nat) : Int))), some (vi (((y : Nat) : Int)))] [] (S nw nx g, 78 + gn, c) B0 post := by
  intro k
  induction k with
  | zero =>
    intro y a hrel  K
    have h60 := GV_N hV
    have h63 := lt63 h2
    simp only [ibY] at K
    refine g_X9_idealBits_19 hM hV hC hD hT9  ?_
    refine ⟨?_, ?_, ⟨fun q => ?_, fun q => ⟨?_, ?_, ⟨fun q => ?_, fun q => ⟨?_, ?_, ⟨fun q => ?_, fun q => ⟨?_, ?_⟩⟩⟩⟩⟩⟩⟩
    all_goals first | omega | exact K | (exfalso; omega) | (simp only [*, if_true, if_false, ite_true, ite_false, Bool.false_eq_true, and_true, true_and, and_false, false_and, and_self, or_true, true_or, or_false, false_or, Bool.and_true, Bool.and_false, Bool.true_and, Bool.false_and, decide_true, decide_false, eq_self, not_true_eq_false, not_false_eq_true, ne_eq, reduceCtorEq] at K; exact K)
  | succ k ih =>
    intro y a hrel  K
    have h60 := GV_N hV
    have h63 := lt63 h2
    simp only [ibY] at K
    refine g_X9_idealBits_19 hM hV hC hD hT9  ?_
    refine ⟨?_, ?_, ⟨fun q => ?_, fun q => ⟨?_, ?_, ⟨fun q => ?_, fun q => ⟨?_, ?_, ⟨fun q => ?_, fun q => ⟨?_, ?_⟩⟩⟩⟩⟩⟩⟩
    all_goals first | omega | assumption | (exfalso; omega) | (simp only [*, if_true, if_false, ite_true, ite_false, Bool.false_eq_true, and_true, true_and, and_false, false_and, and_self, or_true, true_or, or_false, false_or, Bool.and_true, Bool.and_false, Bool.true_and, Bool.false_and, decide_true, decide_false, eq_self, not_true_eq_false, not_false_eq_true, ne_eq, reduceCtorEq] at K; first | exact K | exact ih _ _ (by omega)  K) | exact ih _ _ (by omega)  K

set_option maxHeartbeats 2000000 in
set_option maxRecDepth 20000 in
theorem g_X9_idealBits_8 {G : GG} {j nw nx gn : Nat} {g : Nat → Sh} {c : Nat → Nat → Int} {post : Option AV → AM → Prop} {P : GD} {T : PT} {T9 : Nat} {x : Nat} {a : Nat} (hM : ML c P) (hV : GV P) (hC : GC P) (hD : PD P T c) (hT9 : c 49 38 = ((T9 : Nat) : Int))  (hv : (x < 2147483648) ∧ (gN P < 2147483648) ∧ (((gN P ≤ x) → post (some (vl (((a : Nat) : Int)))) (S nw nx g, 78 + gn, c)) ∧ ((¬ (gN P ≤ x)) → SW G (j + 4) mX9_idealBits 19 [some (vr (49)), some (vl (((a : Nat) : Int))), none, some (vi (((x : Nat) : Int))), some (vi (0))] [] (S nw nx g, 78 + gn, c) B0 post))) :
    SW G (j + 4) mX9_idealBits 8 [some (vr (49)), some (vl (((a : Nat) : Int))), none, some (vi (((x : Nat) : Int))), none] [] (S nw nx g, 78 + gn, c) B0 post := by
  refine sw_iload_n (dX9_idealBits.at 6 rfl) rfl rfl ?_
  refine sw_aload_n (dX9_idealBits.at 7 rfl) rfl rfl ?_
  refine sw_getIE (w := ((gN P : Nat) : Int)) (dX9_idealBits.at 8 rfl) fp_X9_196 (S_lt 49 (by decide)) (S_49 nw nx g) rfl hM.1.2.1 ?_
  refine sw_icmpN_ge x (gN P) (tgt := 72) (dX9_idealBits.at 9 rfl) (by decide) hv.1 hv.2.1 (fun q => ?_) (fun q => ?_)
  · replace hv := hv.2.2.1 q
    refine sw_lload_n (dX9_idealBits.at 38 rfl) rfl rfl ?_
    exact sw_lret (dX9_idealBits.at 39 rfl) rfl (Nat.le_refl _) (Nat.le_refl _) hv
  · replace hv := hv.2.2.2 q
    refine sw_iconst (dX9_idealBits.at 10 rfl) ?_
    refine sw_istore (lo' := [some (vr (49)), some (vl (((a : Nat) : Int))), none, some (vi (((x : Nat) : Int))), some (vi (0))]) (dX9_idealBits.at 11 rfl) (by decide) rfl ?_
    exact hv

set_option maxHeartbeats 4000000 in
theorem lp_X9_idealBits_8 {G : GG} {j nw nx gn : Nat} {g : Nat → Sh} {c : Nat → Nat → Int} {post : Option AV → AM → Prop} {P : GD} {T : PT} {T9 : Nat} (hM : ML c P) (hV : GV P) (hC : GC P) (hD : PD P T c) (hT9 : c 49 38 = ((T9 : Nat) : Int)) (h2 : T9 < 2 ^ 60) : ∀ (k : Nat) (x : Nat) (a : Nat), x + k = gN P → (post (some (vl (((ibX P T9 k x a : Nat) : Int)))) (S nw nx g, 78 + gn, c)) → SW G (j + 4) mX9_idealBits 8 [some (vr (49)), some (vl (((a : Nat) : Int))), none, some (vi (((x : Nat) : Int))), none] [] (S nw nx g, 78 + gn, c) B0 post := by
  intro k
  induction k with
  | zero =>
    intro x a hrel  K
    have h60 := GV_N hV
    simp only [ibX] at K
    refine g_X9_idealBits_8 hM hV hC hD hT9  ?_
    refine ⟨?_, ?_, ⟨fun q => ?_, fun q => ?_⟩⟩
    all_goals first | omega | exact K | (exfalso; omega) | exact lp_X9_idealBits_19 hM hV hC hD hT9 (by omega) h2 (gN P) 0 _ (by omega) (ih _ _ (by omega) K) | (simp only [*, if_true, if_false, ite_true, ite_false, Bool.false_eq_true, and_true, true_and, and_false, false_and, and_self, or_true, true_or, or_false, false_or, Bool.and_true, Bool.and_false, Bool.true_and, Bool.false_and, decide_true, decide_false, eq_self, not_true_eq_false, not_false_eq_true, ne_eq, reduceCtorEq] at K; exact K)
  | succ k ih =>
    intro x a hrel  K
    have h60 := GV_N hV
    simp only [ibX] at K
    refine g_X9_idealBits_8 hM hV hC hD hT9  ?_
    refine ⟨?_, ?_, ⟨fun q => ?_, fun q => ?_⟩⟩
    all_goals first | omega | assumption | (exfalso; omega) | exact lp_X9_idealBits_19 hM hV hC hD hT9 (by omega) h2 (gN P) 0 _ (by omega) (ih _ _ (by omega) K) | (simp only [*, if_true, if_false, ite_true, ite_false, Bool.false_eq_true, and_true, true_and, and_false, false_and, and_self, or_true, true_or, or_false, false_or, Bool.and_true, Bool.and_false, Bool.true_and, Bool.false_and, decide_true, decide_false, eq_self, not_true_eq_false, not_false_eq_true, ne_eq, reduceCtorEq] at K; first | exact K | exact ih _ _ (by omega)  K) | exact ih _ _ (by omega)  K

set_option maxHeartbeats 2000000 in
set_option maxRecDepth 20000 in
theorem g_X9_idealBits_0 {G : GG} {j nw nx gn : Nat} {g : Nat → Sh} {c : Nat → Nat → Int} {post : Option AV → AM → Prop} {P : GD} {T : PT} (hM : ML c P) (hV : GV P) (hC : GC P) (hG : GP P T) (hR : RR P T c)  (hv : (∀ c_1 : Nat → Nat → Int, (SD c c_1 ∧ RD P T c_1) → SW G (j + 4) mX9_idealBits 8 [some (vr (49)), some (vl (0)), none, some (vi (0)), none] [] (S nw nx g, 78 + gn, c_1) B0 post)) :
    SW G (j + 4) mX9_idealBits 0 [some (vr (49)), none, none, none, none] [] (S nw nx g, 78 + gn, c) B0 post := by
  refine sw_aload_n (dX9_idealBits.at 0 rfl) rfl rfl ?_
  refine sw_callV (B' := B0) (As := []) (mc := 0) (ms := 0) (dX9_idealBits.at 1 rfl) lk_X9_305 (S_lt 49 (by decide)) (S_49 nw nx g) rfl rfl (Nat.le_of_ble_eq_true rfl) rfl (Nat.le_refl _) (Nat.le_refl _) ?_
  refine c_X9_laysPairs  (j := j + 0) hM hV hC hG hR (fun c_1 h_1 => ?_)
  replace hv := hv c_1 h_1
  refine sw_lconst (z := 0) (dX9_idealBits.at 2 rfl) (by decide) ?_
  refine sw_lstore_n (lo' := [some (vr (49)), some (vl (0)), none, none, none]) (dX9_idealBits.at 3 rfl) rfl (by decide) rfl ?_
  refine sw_iconst (dX9_idealBits.at 4 rfl) ?_
  refine sw_istore_n (lo' := [some (vr (49)), some (vl (0)), none, some (vi (0)), none]) (dX9_idealBits.at 5 rfl) rfl (by decide) rfl ?_
  exact hv

theorem c_X9_idealBits {G : GG} {j nw nx gn : Nat} {g : Nat → Sh} {c : Nat → Nat → Int} {post : Option AV → AM → Prop} {P : GD} {T : PT} {T9 : Nat} (hM : ML c P) (hV : GV P) (hC : GC P) (hG : GP P T) (hR : RR P T c) (hT9 : c 49 38 = ((T9 : Nat) : Int)) (hd : hDn P) (h2 : T9 < 2 ^ 60) (K : ∀ c2 : Nat → Nat → Int, (SD c c2 ∧ RD P T c2) → post (some (vl ((gAb P T9 (gN P) : Nat) : Int))) (S nw nx g, 78 + gn, c2)) : SM G (j + 5) mX9_idealBits [vr 49] (S nw nx g, 78 + gn, c) 0 0 post := by
  refine sm_of wX9_idealBits rfl (Nat.le_of_ble_eq_true rfl) ?_
  refine g_X9_idealBits_0 hM hV hC hG hR (fun c_1 h_1 => ?_)
  exact lp_X9_idealBits_8 (ML_SD hM h_1.1) hV hC h_1.2.2 ((h_1.1.2 38 (by decide) (by decide)).trans hT9) h2 (gN P) 0 0 (by omega) (by rw [ib_eq hd]; exact K c_1 h_1)

set_option maxHeartbeats 2000000 in
set_option maxRecDepth 20000 in
theorem g_X9_highest_21 {G : GG} {j nw nx gn : Nat} {g : Nat → Sh} {c : Nat → Nat → Int} {post : Option AV → AM → Prop} {O : Nat} {P : GD} {T : PT} {x : Nat} {y : Nat} {a : Nat} (hM : ML c P) (hV : GV P) (hC : GC P) (hD : PD P T c)  (hv : (y < 2147483648) ∧ (gN P < 2147483648) ∧ (((gN P ≤ y) → SW G (j + 4) mX9_highest 9 [some (vr (49)), some (vl (((O : Nat) : Int))), none, some (vl (((a : Nat) : Int))), none, some (vi (((x + 1 : Nat) : Int))), none] [] (S nw nx g, 78 + gn, c) B0 post) ∧ ((¬ (gN P ≤ y)) → (O < 9223372036854775808) ∧ (y < 64) ∧ ((((O.testBit y) = false) → SW G (j + 4) mX9_highest 21 [some (vr (49)), some (vl (((O : Nat) : Int))), none, some (vl (((a : Nat) : Int))), none, some (vi (((x : Nat) : Int))), some (vi (((y + 1 : Nat) : Int)))] [] (S nw nx g, 78 + gn, c) B0 post) ∧ (((O.testBit y) = true) → (x < 2147483648) ∧ (y < 2147483648) ∧ (((x = y) → SW G (j + 4) mX9_highest 21 [some (vr (49)), some (vl (((O : Nat) : Int))), none, some (vl (((a : Nat) : Int))), none, some (vi (((x : Nat) : Int))), some (vi (((y + 1 : Nat) : Int)))] [] (S nw nx g, 78 + gn, c) B0 post) ∧ ((¬ (x = y)) → (x < gN P) ∧ (y < gN P) ∧ (((((gD P y).testBit x) = false) → SW G (j + 4) mX9_highest 21 [some (vr (49)), some (vl (((O : Nat) : Int))), none, some (vl (((a : Nat) : Int))), none, some (vi (((x : Nat) : Int))), some (vi (((y + 1 : Nat) : Int)))] [] (S nw nx g, 78 + gn, c) B0 post) ∧ ((((gD P y).testBit x) = true) → (x < 64) ∧ (SW G (j + 4) mX9_highest 21 [some (vr (49)), some (vl (((O : Nat) : Int))), none, some (vl (((andn a (1 * 2 ^ x) : Nat) : Int))), none, some (vi (((x : Nat) : Int))), some (vi (((y + 1 : Nat) : Int)))] [] (S nw nx g, 78 + gn, c) B0 post)))))))))) :
    SW G (j + 4) mX9_highest 21 [some (vr (49)), some (vl (((O : Nat) : Int))), none, some (vl (((a : Nat) : Int))), none, some (vi (((x : Nat) : Int))), some (vi (((y : Nat) : Int)))] [] (S nw nx g, 78 + gn, c) B0 post := by
  refine sw_iload (dX9_highest.at 12 rfl) rfl ?_
  refine sw_aload_n (dX9_highest.at 13 rfl) rfl rfl ?_
  refine sw_getIE (w := ((gN P : Nat) : Int)) (dX9_highest.at 14 rfl) fp_X9_196 (S_lt 49 (by decide)) (S_49 nw nx g) rfl hM.1.2.1 ?_
  refine sw_icmpN_ge y (gN P) (tgt := 80) (dX9_highest.at 15 rfl) (by decide) hv.1 hv.2.1 (fun q => ?_) (fun q => ?_)
  · replace hv := hv.2.2.1 q
    refine sw_iinc (lo' := [some (vr (49)), some (vl (((O : Nat) : Int))), none, some (vl (((a : Nat) : Int))), none, some (vi (((x + 1 : Nat) : Int))), some (vi (((y : Nat) : Int)))]) (dX9_highest.at 40 rfl) rfl (by decide) rfl ?_
    refine sw_goto (tgt := 9) (dX9_highest.at 41 rfl) (by decide) ?_
    exact sw_mask (bs := [true, true, false, true, false, true, false]) hv
  · replace hv := hv.2.2.2 q
    refine sw_lload_n (dX9_highest.at 16 rfl) rfl rfl ?_
    refine sw_lload_n (dX9_highest.at 17 rfl) rfl rfl ?_
    refine sw_iload (dX9_highest.at 18 rfl) rfl ?_
    refine sw_callS (post' := post) (B' := B0) (As := [vl (((O : Nat) : Int)), vi (((y : Nat) : Int))]) (mc := 0) (ms := 0) (dX9_highest.at 19 rfl) lk_X9_240 rfl rfl (Nat.le_of_ble_eq_true rfl) rfl (Nat.le_refl _) (Nat.le_refl _) ?_
    refine c_X9_has (s := O) (i := y) (j := j + 3) hv.1 hv.2.1 ?_
    replace hv := hv.2.2
    refine sw_if_eq (tgt := 69) (dX9_highest.at 20 rfl) (by decide) (bz_rng _) (fun q => ?_) (fun q => ?_)
    · replace hv := hv.1 (bz_0 q)
      refine sw_ldc2 (z := (-1)) (dX9_highest.at 35 rfl) kc_X9_394 (by decide) ?_
      refine sw_land (dX9_highest.at 36 rfl) ?_
      refine sw_topL (y := ((a : Nat) : Int)) (and64_m1 _) ?_
      refine sw_lstore_n (lo' := [some (vr (49)), some (vl (((O : Nat) : Int))), none, some (vl (((a : Nat) : Int))), none, some (vi (((x : Nat) : Int))), some (vi (((y : Nat) : Int)))]) (dX9_highest.at 37 rfl) rfl (by decide) rfl ?_
      refine sw_iinc (lo' := [some (vr (49)), some (vl (((O : Nat) : Int))), none, some (vl (((a : Nat) : Int))), none, some (vi (((x : Nat) : Int))), some (vi (((y + 1 : Nat) : Int)))]) (dX9_highest.at 38 rfl) rfl (by decide) rfl ?_
      refine sw_goto (tgt := 21) (dX9_highest.at 39 rfl) (by decide) ?_
      exact hv
    · replace hv := hv.2 (bz_n0 q)
      refine sw_iload (dX9_highest.at 21 rfl) rfl ?_
      refine sw_iload (dX9_highest.at 22 rfl) rfl ?_
      refine sw_icmpN_eq x y (tgt := 69) (dX9_highest.at 23 rfl) (by decide) hv.1 hv.2.1 (fun q => ?_) (fun q => ?_)
      · replace hv := hv.2.2.1 q
        refine sw_ldc2 (z := (-1)) (dX9_highest.at 35 rfl) kc_X9_394 (by decide) ?_
        refine sw_land (dX9_highest.at 36 rfl) ?_
        refine sw_topL (y := ((a : Nat) : Int)) (and64_m1 _) ?_
        refine sw_lstore_n (lo' := [some (vr (49)), some (vl (((O : Nat) : Int))), none, some (vl (((a : Nat) : Int))), none, some (vi (((x : Nat) : Int))), some (vi (((y : Nat) : Int)))]) (dX9_highest.at 37 rfl) rfl (by decide) rfl ?_
        refine sw_iinc (lo' := [some (vr (49)), some (vl (((O : Nat) : Int))), none, some (vl (((a : Nat) : Int))), none, some (vi (((x : Nat) : Int))), some (vi (((y + 1 : Nat) : Int)))]) (dX9_highest.at 38 rfl) rfl (by decide) rfl ?_
        refine sw_goto (tgt := 21) (dX9_highest.at 39 rfl) (by decide) ?_
        exact hv
      · replace hv := hv.2.2.2 q
        refine sw_aload_n (dX9_highest.at 24 rfl) rfl rfl ?_
        refine sw_iload (dX9_highest.at 25 rfl) rfl ?_
        refine sw_iload (dX9_highest.at 26 rfl) rfl ?_
        refine sw_callV (B' := B0) (As := [vi (((x : Nat) : Int)), vi (((y : Nat) : Int))]) (mc := 0) (ms := 0) (dX9_highest.at 27 rfl) lk_X9_311 (S_lt 49 (by decide)) (S_49 nw nx g) rfl rfl (Nat.le_of_ble_eq_true rfl) rfl (Nat.le_refl _) (Nat.le_refl _) ?_
        refine c_X9_areBelow (v := x) (w := y) (j := j + 3) hM hV hC hD hv.1 hv.2.1 ?_
        replace hv := hv.2.2
        refine sw_if_eq (tgt := 69) (dX9_highest.at 28 rfl) (by decide) (bz_rng _) (fun q => ?_) (fun q => ?_)
        · replace hv := hv.1 (bz_0 q)
          refine sw_ldc2 (z := (-1)) (dX9_highest.at 35 rfl) kc_X9_394 (by decide) ?_
          refine sw_land (dX9_highest.at 36 rfl) ?_
          refine sw_topL (y := ((a : Nat) : Int)) (and64_m1 _) ?_
          refine sw_lstore_n (lo' := [some (vr (49)), some (vl (((O : Nat) : Int))), none, some (vl (((a : Nat) : Int))), none, some (vi (((x : Nat) : Int))), some (vi (((y : Nat) : Int)))]) (dX9_highest.at 37 rfl) rfl (by decide) rfl ?_
          refine sw_iinc (lo' := [some (vr (49)), some (vl (((O : Nat) : Int))), none, some (vl (((a : Nat) : Int))), none, some (vi (((x : Nat) : Int))), some (vi (((y + 1 : Nat) : Int)))]) (dX9_highest.at 38 rfl) rfl (by decide) rfl ?_
          refine sw_goto (tgt := 21) (dX9_highest.at 39 rfl) (by decide) ?_
          exact hv
        · replace hv := hv.2 (bz_n0 q)
          refine sw_lconst (z := 1) (dX9_highest.at 29 rfl) (by decide) ?_
          refine sw_iload (dX9_highest.at 30 rfl) rfl ?_
          refine sw_lshlN 1 x (dX9_highest.at 31 rfl) hv.1 ?_
          replace hv := hv.2
          refine sw_ldc2 (z := (-1)) (dX9_highest.at 32 rfl) kc_X9_394 (by decide) ?_
          refine sw_lxor (dX9_highest.at 33 rfl) ?_
          refine sw_goto (tgt := 72) (dX9_highest.at 34 rfl) (by decide) ?_
          refine sw_landC a (1 * 2 ^ x) (dX9_highest.at 36 rfl) ?_
          refine sw_lstore_n (lo' := [some (vr (49)), some (vl (((O : Nat) : Int))), none, some (vl (((andn a (1 * 2 ^ x) : Nat) : Int))), none, some (vi (((x : Nat) : Int))), some (vi (((y : Nat) : Int)))]) (dX9_highest.at 37 rfl) rfl (by decide) rfl ?_
          refine sw_iinc (lo' := [some (vr (49)), some (vl (((O : Nat) : Int))), none, some (vl (((andn a (1 * 2 ^ x) : Nat) : Int))), none, some (vi (((x : Nat) : Int))), some (vi (((y + 1 : Nat) : Int)))]) (dX9_highest.at 38 rfl) rfl (by decide) rfl ?_
          refine sw_goto (tgt := 21) (dX9_highest.at 39 rfl) (by decide) ?_
          exact hv

set_option maxHeartbeats 4000000 in
theorem lp_X9_highest_21 {G : GG} {j nw nx gn : Nat} {g : Nat → Sh} {c : Nat → Nat → Int} {post : Option AV → AM → Prop} {P : GD} {T : PT} {x : Nat} {O : Nat} (hM : ML c P) (hV : GV P) (hC : GC P) (hD : PD P T c) (hx : x < gN P) (h2 : O < 2 ^ 60) : ∀ (k : Nat) (y : Nat) (a : Nat), y + k = gN P → (SW G (j + 4) mX9_highest 9 [some (vr (49)), some (vl (((O : Nat) : Int))), none, some (vl (((hgY P O x k y a : Nat) : Int))), none, some (vi (((x + 1 : Nat) : Int))), none] [] (S nw nx g, 78 + gn, c) B0 post) → SW G (j + 4) mX9_highest 21 [some (vr (49)), some (vl (((O : Nat) : Int))), none, some (vl (((a : Nat) : Int))), none, some (vi (((x : Nat) : Int))), some (vi (((y : Nat) : Int)))] [] (S nw nx g, 78 + gn, c) B0 post := by
  intro k
  induction k with
  | zero =>
    intro y a hrel  K
    have h60 := GV_N hV
    rw [hgY] at K
    refine g_X9_highest_21 hM hV hC hD ?_
    refine ⟨?_, ?_, ⟨fun q => ?_, fun q => ⟨?_, ?_, ⟨fun q => ?_, fun q => ⟨?_, ?_, ⟨fun q => ?_, fun q => ⟨?_, ?_, ⟨fun q => ?_, fun q => ⟨?_, ?_⟩⟩⟩⟩⟩⟩⟩⟩⟩
    all_goals first | omega | exact K | (exfalso; omega)
  | succ k ih =>
    intro y a hrel  K
    have h60 := GV_N hV
    have h63 := lt63 h2
    rw [hgY] at K
    refine g_X9_highest_21 hM hV hC hD ?_
    refine ⟨?_, ?_, ⟨fun q => ?_, fun q => ⟨?_, ?_, ⟨fun q => ?_, fun q => ⟨?_, ?_, ⟨fun q => ?_, fun q => ⟨?_, ?_, ⟨fun q => ?_, fun q => ⟨?_, ?_⟩⟩⟩⟩⟩⟩⟩⟩⟩
    all_goals first | omega | assumption | (exfalso; omega) | (rw [if_pos (by simp [*])] at K; exact ih _ _ (by omega) K) | (rw [if_neg (by simp [*])] at K; exact ih _ _ (by omega) K)

set_option maxHeartbeats 2000000 in
set_option maxRecDepth 20000 in
theorem g_X9_highest_9 {G : GG} {j nw nx gn : Nat} {g : Nat → Sh} {c : Nat → Nat → Int} {post : Option AV → AM → Prop} {O : Nat} {P : GD} {T : PT} {x : Nat} {a : Nat} (hM : ML c P) (hV : GV P) (hC : GC P) (hD : PD P T c)  (hv : (x < 2147483648) ∧ (gN P < 2147483648) ∧ (((gN P ≤ x) → post (some (vl (((a : Nat) : Int)))) (S nw nx g, 78 + gn, c)) ∧ ((¬ (gN P ≤ x)) → SW G (j + 4) mX9_highest 21 [some (vr (49)), some (vl (((O : Nat) : Int))), none, some (vl (((a : Nat) : Int))), none, some (vi (((x : Nat) : Int))), some (vi (0))] [] (S nw nx g, 78 + gn, c) B0 post))) :
    SW G (j + 4) mX9_highest 9 [some (vr (49)), some (vl (((O : Nat) : Int))), none, some (vl (((a : Nat) : Int))), none, some (vi (((x : Nat) : Int))), none] [] (S nw nx g, 78 + gn, c) B0 post := by
  refine sw_iload (dX9_highest.at 6 rfl) rfl ?_
  refine sw_aload_n (dX9_highest.at 7 rfl) rfl rfl ?_
  refine sw_getIE (w := ((gN P : Nat) : Int)) (dX9_highest.at 8 rfl) fp_X9_196 (S_lt 49 (by decide)) (S_49 nw nx g) rfl hM.1.2.1 ?_
  refine sw_icmpN_ge x (gN P) (tgt := 86) (dX9_highest.at 9 rfl) (by decide) hv.1 hv.2.1 (fun q => ?_) (fun q => ?_)
  · replace hv := hv.2.2.1 q
    refine sw_lload_n (dX9_highest.at 42 rfl) rfl rfl ?_
    exact sw_lret (dX9_highest.at 43 rfl) rfl (Nat.le_refl _) (Nat.le_refl _) hv
  · replace hv := hv.2.2.2 q
    refine sw_iconst (dX9_highest.at 10 rfl) ?_
    refine sw_istore (lo' := [some (vr (49)), some (vl (((O : Nat) : Int))), none, some (vl (((a : Nat) : Int))), none, some (vi (((x : Nat) : Int))), some (vi (0))]) (dX9_highest.at 11 rfl) (by decide) rfl ?_
    exact hv

set_option maxHeartbeats 4000000 in
theorem lp_X9_highest_9 {G : GG} {j nw nx gn : Nat} {g : Nat → Sh} {c : Nat → Nat → Int} {post : Option AV → AM → Prop} {P : GD} {T : PT} {O : Nat} (hM : ML c P) (hV : GV P) (hC : GC P) (hD : PD P T c) (h2 : O < 2 ^ 60) : ∀ (k : Nat) (x : Nat) (a : Nat), x + k = gN P → (post (some (vl (((hgX P O k x a : Nat) : Int)))) (S nw nx g, 78 + gn, c)) → SW G (j + 4) mX9_highest 9 [some (vr (49)), some (vl (((O : Nat) : Int))), none, some (vl (((a : Nat) : Int))), none, some (vi (((x : Nat) : Int))), none] [] (S nw nx g, 78 + gn, c) B0 post := by
  intro k
  induction k with
  | zero =>
    intro x a hrel  K
    have h60 := GV_N hV
    simp only [hgX] at K
    refine g_X9_highest_9 hM hV hC hD  ?_
    refine ⟨?_, ?_, ⟨fun q => ?_, fun q => ?_⟩⟩
    all_goals first | omega | exact K | (exfalso; omega) | exact lp_X9_highest_21 hM hV hC hD (by omega) h2 (gN P) 0 _ (by omega) (ih _ _ (by omega) K) | (simp only [*, if_true, if_false, ite_true, ite_false, Bool.false_eq_true, and_true, true_and, and_false, false_and, and_self, or_true, true_or, or_false, false_or, Bool.and_true, Bool.and_false, Bool.true_and, Bool.false_and, decide_true, decide_false, eq_self, not_true_eq_false, not_false_eq_true, ne_eq, reduceCtorEq] at K; exact K)
  | succ k ih =>
    intro x a hrel  K
    have h60 := GV_N hV
    simp only [hgX] at K
    refine g_X9_highest_9 hM hV hC hD  ?_
    refine ⟨?_, ?_, ⟨fun q => ?_, fun q => ?_⟩⟩
    all_goals first | omega | assumption | (exfalso; omega) | exact lp_X9_highest_21 hM hV hC hD (by omega) h2 (gN P) 0 _ (by omega) (ih _ _ (by omega) K) | (simp only [*, if_true, if_false, ite_true, ite_false, Bool.false_eq_true, and_true, true_and, and_false, false_and, and_self, or_true, true_or, or_false, false_or, Bool.and_true, Bool.and_false, Bool.true_and, Bool.false_and, decide_true, decide_false, eq_self, not_true_eq_false, not_false_eq_true, ne_eq, reduceCtorEq] at K; first | exact K | exact ih _ _ (by omega)  K) | exact ih _ _ (by omega)  K

set_option maxHeartbeats 2000000 in
set_option maxRecDepth 20000 in
theorem g_X9_highest_0 {G : GG} {j nw nx gn : Nat} {g : Nat → Sh} {c : Nat → Nat → Int} {post : Option AV → AM → Prop} {O : Nat} {P : GD} {T : PT} (hM : ML c P) (hV : GV P) (hC : GC P) (hG : GP P T) (hR : RR P T c)  (hv : (∀ c_1 : Nat → Nat → Int, (SD c c_1 ∧ RD P T c_1) → SW G (j + 4) mX9_highest 9 [some (vr (49)), some (vl (((O : Nat) : Int))), none, some (vl (((O : Nat) : Int))), none, some (vi (0)), none] [] (S nw nx g, 78 + gn, c_1) B0 post)) :
    SW G (j + 4) mX9_highest 0 [some (vr (49)), some (vl (((O : Nat) : Int))), none, none, none, none, none] [] (S nw nx g, 78 + gn, c) B0 post := by
  refine sw_aload_n (dX9_highest.at 0 rfl) rfl rfl ?_
  refine sw_callV (B' := B0) (As := []) (mc := 0) (ms := 0) (dX9_highest.at 1 rfl) lk_X9_305 (S_lt 49 (by decide)) (S_49 nw nx g) rfl rfl (Nat.le_of_ble_eq_true rfl) rfl (Nat.le_refl _) (Nat.le_refl _) ?_
  refine c_X9_laysPairs  (j := j + 0) hM hV hC hG hR (fun c_1 h_1 => ?_)
  replace hv := hv c_1 h_1
  refine sw_lload_n (dX9_highest.at 2 rfl) rfl rfl ?_
  refine sw_lstore_n (lo' := [some (vr (49)), some (vl (((O : Nat) : Int))), none, some (vl (((O : Nat) : Int))), none, none, none]) (dX9_highest.at 3 rfl) rfl (by decide) rfl ?_
  refine sw_iconst (dX9_highest.at 4 rfl) ?_
  refine sw_istore (lo' := [some (vr (49)), some (vl (((O : Nat) : Int))), none, some (vl (((O : Nat) : Int))), none, some (vi (0)), none]) (dX9_highest.at 5 rfl) (by decide) rfl ?_
  exact hv

theorem c_X9_highest {G : GG} {j nw nx gn : Nat} {g : Nat → Sh} {c : Nat → Nat → Int} {post : Option AV → AM → Prop} {P : GD} {T : PT} {O : Nat} (hM : ML c P) (hV : GV P) (hC : GC P) (hG : GP P T) (hR : RR P T c) (hd : hDn P) (h2 : O < 2 ^ 60) (K : ∀ c2 : Nat → Nat → Int, (SD c c2 ∧ RD P T c2) → post (some (vl ((gTp P O : Nat) : Int))) (S nw nx g, 78 + gn, c2)) : SM G (j + 5) mX9_highest [vr 49, vl ((O : Nat) : Int)] (S nw nx g, 78 + gn, c) 0 0 post := by
  refine sm_of wX9_highest rfl (Nat.le_of_ble_eq_true rfl) ?_
  refine g_X9_highest_0 hM hV hC hG hR (fun c_1 h_1 => ?_)
  exact lp_X9_highest_9 (ML_SD hM h_1.1) hV hC h_1.2.2 h2 (gN P) 0 O (by omega) (by rw [hg_eq hd]; exact K c_1 h_1)

set_option maxHeartbeats 2000000 in
set_option maxRecDepth 20000 in
theorem g_X9_ideal_0 {G : GG} {j nw nx gn : Nat} {g : Nat → Sh} {c : Nat → Nat → Int} {post : Option AV → AM → Prop} {P : GD} {T : PT} {T9 : Nat} {A9 : Nat} (hM : ML c P) (hV : GV P) (hC : GC P) (hG : GP P T) (hR : RR P T c) (hT9 : c 49 38 = ((T9 : Nat) : Int)) (hA9 : c 49 39 = ((A9 : Nat) : Int)) (hd : hDn P)  (hv : (((decide (0 < gN P)) = false) → post (some (vl ((-2)))) (S nw nx g, 78 + gn, c)) ∧ (((decide (0 < gN P)) = true) → (T9 < 2 ^ 60) ∧ (∀ c_1 : Nat → Nat → Int, (SD c c_1 ∧ RD P T c_1) → post (some (vl (((gAb P T9 (gN P) : Nat) : Int)))) (S nw nx g, 78 + gn, c_1)))) :
    SW G (j + 5) mX9_ideal 0 [some (vr (49))] [] (S nw nx g, 78 + gn, c) B0 post := by
  refine sw_aload_n (dX9_ideal.at 0 rfl) rfl rfl ?_
  refine sw_callV (B' := B0) (As := []) (mc := 0) (ms := 0) (dX9_ideal.at 1 rfl) lk_X9_248 (S_lt 49 (by decide)) (S_49 nw nx g) rfl rfl (Nat.le_of_ble_eq_true rfl) rfl (Nat.le_refl _) (Nat.le_refl _) ?_
  refine c_X9_is  (j := j + 4) hM hV ?_
  refine sw_if_eq (tgt := 14) (dX9_ideal.at 2 rfl) (by decide) (bz_rng _) (fun q => ?_) (fun q => ?_)
  · replace hv := hv.1 (bz_0 q)
    refine sw_ldc2 (z := (-2)) (dX9_ideal.at 6 rfl) kc_X9_259 (by decide) ?_
    exact sw_lret (dX9_ideal.at 7 rfl) rfl (Nat.le_refl _) (Nat.le_refl _) hv
  · replace hv := hv.2 (bz_n0 q)
    refine sw_aload_n (dX9_ideal.at 3 rfl) rfl rfl ?_
    refine sw_callV (B' := B0) (As := []) (mc := 0) (ms := 0) (dX9_ideal.at 4 rfl) lk_X9_396 (S_lt 49 (by decide)) (S_49 nw nx g) rfl rfl (Nat.le_of_ble_eq_true rfl) rfl (Nat.le_refl _) (Nat.le_refl _) ?_
    refine c_X9_idealBits (T9 := T9) (j := j + 0) hM hV hC hG hR hT9 hd hv.1 (fun c_1 h_1 => ?_)
    replace hv := hv.2 c_1 h_1
    refine sw_goto (tgt := 17) (dX9_ideal.at 5 rfl) (by decide) ?_
    exact sw_lret (dX9_ideal.at 7 rfl) rfl (Nat.le_refl _) (Nat.le_refl _) hv

set_option maxHeartbeats 2000000 in
theorem c_X9_ideal {G : GG} {j nw nx gn : Nat} {g : Nat → Sh} {c : Nat → Nat → Int} {post : Option AV → AM → Prop} {P : GD} {T : PT} {T9 A9 : Nat} (hM : ML c P) (hV : GV P) (hC : GC P) (hG : GP P T) (hR : RR P T c) (hT9 : c 49 38 = ((T9 : Nat) : Int)) (hA9 : c 49 39 = ((A9 : Nat) : Int)) (hd : hDn P) (h2 : T9 < 2 ^ 60) (K : ∀ c2 : Nat → Nat → Int, (SD c c2 ∧ RR P T c2) → post (some (vl (q_ideal P T9))) (S nw nx g, 78 + gn, c2)) : SM G (j + 6) mX9_ideal [vr 49] (S nw nx g, 78 + gn, c) 0 0 post := by
  refine sm_of wX9_ideal rfl (Nat.le_of_ble_eq_true rfl) ?_
  have hg9 := gAb_lt hV (T := T9) (gN P) (Nat.le_refl _)
  refine g_X9_ideal_0 hM hV hC hG hR hT9 hA9 hd ?_
  by_cases hn : gN P = 0
  · rw [q_ideal, if_pos hn] at K
    have K0 := K c ⟨SD_rf, hR⟩
    refine ⟨fun q => ?_, fun q => ⟨?_, fun c_1 h_1 => ?_⟩⟩
    all_goals (try simp only [decide_eq_true_eq, decide_eq_false_iff_not] at *)
    all_goals first | omega | exact K0 | (exfalso; omega)
  · rw [q_ideal, if_neg hn] at K
    refine ⟨fun q => ?_, fun q => ⟨?_, fun c_1 h_1 => ?_⟩⟩
    all_goals (try simp only [decide_eq_true_eq, decide_eq_false_iff_not] at *)
    all_goals first | omega | assumption | (exfalso; omega) | exact K _ ⟨SD_rf, hR⟩ | exact K _ ⟨h_1.1, Or.inr h_1.2⟩ | exact K _ ⟨SD_tr h_1.1 h_2.1, Or.inr h_2.2⟩

set_option maxHeartbeats 2000000 in
set_option maxRecDepth 20000 in
theorem g_X9_peaks_0 {G : GG} {j nw nx gn : Nat} {g : Nat → Sh} {c : Nat → Nat → Int} {post : Option AV → AM → Prop} {P : GD} {T : PT} {T9 : Nat} {A9 : Nat} (hM : ML c P) (hV : GV P) (hC : GC P) (hG : GP P T) (hR : RR P T c) (hT9 : c 49 38 = ((T9 : Nat) : Int)) (hA9 : c 49 39 = ((A9 : Nat) : Int)) (hd : hDn P)  (hv : (((decide (0 < gN P)) = false) → post (some (vl ((-2)))) (S nw nx g, 78 + gn, c)) ∧ (((decide (0 < gN P)) = true) → (T9 < 2 ^ 60) ∧ (∀ c_1 : Nat → Nat → Int, (SD c c_1 ∧ RD P T c_1) → ((gAb P T9 (gN P)) < 2 ^ 60) ∧ (∀ c_2 : Nat → Nat → Int, (SD c_1 c_2 ∧ RD P T c_2) → post (some (vl (((gTp P (gAb P T9 (gN P)) : Nat) : Int)))) (S nw nx g, 78 + gn, c_2))))) :
    SW G (j + 5) mX9_peaks 0 [some (vr (49))] [] (S nw nx g, 78 + gn, c) B0 post := by
  refine sw_aload_n (dX9_peaks.at 0 rfl) rfl rfl ?_
  refine sw_callV (B' := B0) (As := []) (mc := 0) (ms := 0) (dX9_peaks.at 1 rfl) lk_X9_248 (S_lt 49 (by decide)) (S_49 nw nx g) rfl rfl (Nat.le_of_ble_eq_true rfl) rfl (Nat.le_refl _) (Nat.le_refl _) ?_
  refine c_X9_is  (j := j + 4) hM hV ?_
  refine sw_if_eq (tgt := 18) (dX9_peaks.at 2 rfl) (by decide) (bz_rng _) (fun q => ?_) (fun q => ?_)
  · replace hv := hv.1 (bz_0 q)
    refine sw_ldc2 (z := (-2)) (dX9_peaks.at 8 rfl) kc_X9_259 (by decide) ?_
    exact sw_lret (dX9_peaks.at 9 rfl) rfl (Nat.le_refl _) (Nat.le_refl _) hv
  · replace hv := hv.2 (bz_n0 q)
    refine sw_aload_n (dX9_peaks.at 3 rfl) rfl rfl ?_
    refine sw_aload_n (dX9_peaks.at 4 rfl) rfl rfl ?_
    refine sw_callV (B' := B0) (As := []) (mc := 0) (ms := 0) (dX9_peaks.at 5 rfl) lk_X9_396 (S_lt 49 (by decide)) (S_49 nw nx g) rfl rfl (Nat.le_of_ble_eq_true rfl) rfl (Nat.le_refl _) (Nat.le_refl _) ?_
    refine c_X9_idealBits (T9 := T9) (j := j + 0) hM hV hC hG hR hT9 hd hv.1 (fun c_1 h_1 => ?_)
    replace hv := hv.2 c_1 h_1
    refine sw_callV (B' := B0) (As := [vl (((gAb P T9 (gN P) : Nat) : Int))]) (mc := 0) (ms := 0) (dX9_peaks.at 6 rfl) lk_X9_400 (S_lt 49 (by decide)) (S_49 nw nx g) rfl rfl (Nat.le_of_ble_eq_true rfl) rfl (Nat.le_refl _) (Nat.le_refl _) ?_
    refine c_X9_highest (T := T) (O := (gAb P T9 (gN P))) (j := j + 0) (ML_SD hM (SD_tr SD_rf h_1.1)) hV hC hG (Or.inr h_1.2) hd hv.1 (fun c_2 h_2 => ?_)
    replace hv := hv.2 c_2 h_2
    refine sw_goto (tgt := 21) (dX9_peaks.at 7 rfl) (by decide) ?_
    exact sw_lret (dX9_peaks.at 9 rfl) rfl (Nat.le_refl _) (Nat.le_refl _) hv

set_option maxHeartbeats 2000000 in
theorem c_X9_peaks {G : GG} {j nw nx gn : Nat} {g : Nat → Sh} {c : Nat → Nat → Int} {post : Option AV → AM → Prop} {P : GD} {T : PT} {T9 A9 : Nat} (hM : ML c P) (hV : GV P) (hC : GC P) (hG : GP P T) (hR : RR P T c) (hT9 : c 49 38 = ((T9 : Nat) : Int)) (hA9 : c 49 39 = ((A9 : Nat) : Int)) (hd : hDn P) (h2 : T9 < 2 ^ 60) (K : ∀ c2 : Nat → Nat → Int, (SD c c2 ∧ RR P T c2) → post (some (vl (q_peaks P T9))) (S nw nx g, 78 + gn, c2)) : SM G (j + 6) mX9_peaks [vr 49] (S nw nx g, 78 + gn, c) 0 0 post := by
  refine sm_of wX9_peaks rfl (Nat.le_of_ble_eq_true rfl) ?_
  have hg9 := gAb_lt hV (T := T9) (gN P) (Nat.le_refl _)
  refine g_X9_peaks_0 hM hV hC hG hR hT9 hA9 hd ?_
  by_cases hn : gN P = 0
  · rw [q_peaks, if_pos hn] at K
    have K0 := K c ⟨SD_rf, hR⟩
    refine ⟨fun q => ?_, fun q => ⟨?_, fun c_1 h_1 => ⟨?_, fun c_2 h_2 => ?_⟩⟩⟩
    all_goals (try simp only [decide_eq_true_eq, decide_eq_false_iff_not] at *)
    all_goals first | omega | exact K0 | (exfalso; omega)
  · rw [q_peaks, if_neg hn] at K
    refine ⟨fun q => ?_, fun q => ⟨?_, fun c_1 h_1 => ⟨?_, fun c_2 h_2 => ?_⟩⟩⟩
    all_goals (try simp only [decide_eq_true_eq, decide_eq_false_iff_not] at *)
    all_goals first | omega | assumption | (exfalso; omega) | exact K _ ⟨SD_rf, hR⟩ | exact K _ ⟨h_1.1, Or.inr h_1.2⟩ | exact K _ ⟨SD_tr h_1.1 h_2.1, Or.inr h_2.2⟩

set_option maxHeartbeats 2000000 in
set_option maxRecDepth 20000 in
theorem g_X9_marked_0 {G : GG} {j nw nx gn : Nat} {g : Nat → Sh} {c : Nat → Nat → Int} {post : Option AV → AM → Prop} {P : GD} {T : PT} {T9 : Nat} {A9 : Nat} (hM : ML c P) (hV : GV P) (hC : GC P) (hG : GP P T) (hR : RR P T c) (hT9 : c 49 38 = ((T9 : Nat) : Int)) (hA9 : c 49 39 = ((A9 : Nat) : Int)) (hd : hDn P)  (hv : (((decide (0 < gN P)) = false) → post (some (vl ((-2)))) (S nw nx g, 78 + gn, c)) ∧ (((decide (0 < gN P)) = true) → post (some (vl (((T9 : Nat) : Int)))) (S nw nx g, 78 + gn, c))) :
    SW G (j + 1) mX9_marked 0 [some (vr (49))] [] (S nw nx g, 78 + gn, c) B0 post := by
  refine sw_aload_n (dX9_marked.at 0 rfl) rfl rfl ?_
  refine sw_callV (B' := B0) (As := []) (mc := 0) (ms := 0) (dX9_marked.at 1 rfl) lk_X9_248 (S_lt 49 (by decide)) (S_49 nw nx g) rfl rfl (Nat.le_of_ble_eq_true rfl) rfl (Nat.le_refl _) (Nat.le_refl _) ?_
  refine c_X9_is  (j := j + 0) hM hV ?_
  refine sw_if_eq (tgt := 14) (dX9_marked.at 2 rfl) (by decide) (bz_rng _) (fun q => ?_) (fun q => ?_)
  · replace hv := hv.1 (bz_0 q)
    refine sw_ldc2 (z := (-2)) (dX9_marked.at 6 rfl) kc_X9_259 (by decide) ?_
    exact sw_lret (dX9_marked.at 7 rfl) rfl (Nat.le_refl _) (Nat.le_refl _) hv
  · replace hv := hv.2 (bz_n0 q)
    refine sw_aload_n (dX9_marked.at 3 rfl) rfl rfl ?_
    refine sw_getLE (w := ((T9 : Nat) : Int)) (dX9_marked.at 4 rfl) fp_X9_202 (S_lt 49 (by decide)) (S_49 nw nx g) rfl hT9 ?_
    refine sw_goto (tgt := 17) (dX9_marked.at 5 rfl) (by decide) ?_
    exact sw_lret (dX9_marked.at 7 rfl) rfl (Nat.le_refl _) (Nat.le_refl _) hv

set_option maxHeartbeats 2000000 in
theorem c_X9_marked {G : GG} {j nw nx gn : Nat} {g : Nat → Sh} {c : Nat → Nat → Int} {post : Option AV → AM → Prop} {P : GD} {T : PT} {T9 A9 : Nat} (hM : ML c P) (hV : GV P) (hC : GC P) (hG : GP P T) (hR : RR P T c) (hT9 : c 49 38 = ((T9 : Nat) : Int)) (hA9 : c 49 39 = ((A9 : Nat) : Int)) (hd : hDn P) (h2 : T9 < 2 ^ 60) (K : ∀ c2 : Nat → Nat → Int, (SD c c2 ∧ RR P T c2) → post (some (vl (q_marked P T9))) (S nw nx g, 78 + gn, c2)) : SM G (j + 2) mX9_marked [vr 49] (S nw nx g, 78 + gn, c) 0 0 post := by
  refine sm_of wX9_marked rfl (Nat.le_of_ble_eq_true rfl) ?_
  have hg9 := gAb_lt hV (T := T9) (gN P) (Nat.le_refl _)
  refine g_X9_marked_0 hM hV hC hG hR hT9 hA9 hd ?_
  by_cases hn : gN P = 0
  · rw [q_marked, if_pos hn] at K
    have K0 := K c ⟨SD_rf, hR⟩
    refine ⟨fun q => ?_, fun q => ?_⟩
    all_goals (try simp only [decide_eq_true_eq, decide_eq_false_iff_not] at *)
    all_goals first | omega | exact K0 | (exfalso; omega)
  · rw [q_marked, if_neg hn] at K
    refine ⟨fun q => ?_, fun q => ?_⟩
    all_goals (try simp only [decide_eq_true_eq, decide_eq_false_iff_not] at *)
    all_goals first | omega | assumption | (exfalso; omega) | exact K _ ⟨SD_rf, hR⟩ | exact K _ ⟨h_1.1, Or.inr h_1.2⟩ | exact K _ ⟨SD_tr h_1.1 h_2.1, Or.inr h_2.2⟩

