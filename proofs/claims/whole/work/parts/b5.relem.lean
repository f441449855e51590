def qel (R : Nat × Int × Nat) : Int := if R.1 = 0 then ((R.2.2 : Nat) : Int) else -4
theorem h54 {c : Nat → Nat → Int} {P : GD} {v w : Nat} (hH : ∀ x s, x < gN P → s < gR P → c 54 (5 * x + s) = (gS P x s : Int)) (h1 : v < gN P) (h2 : 97 ≤ w) (h3 : w - 97 < gR P) : c 54 (5 * v + w - 97) = ((gS P v (w - 97) : Nat) : Int) := by
  have e : 5 * v + w - 97 = 5 * v + (w - 97) := by omega
  rw [e]
  exact hH v _ h1 h3
theorem elP_lt {nb : Nat → Nat} {n : Nat} {P : GD} (hV : GV P) : ∀ k p x, x < gN P → p ≤ n → (elP nb n P k p x).2.2 < gN P ∧ (elP nb n P k p x).1 < 5 := by
  intro k
  induction k with
  | zero => intro p x h hp; exact ⟨h, zf0⟩
  | succ k ih =>
    intro p x h hp
    unfold elP
    split
    · exact ⟨h, zf0⟩
    · split
      · exact ⟨Nat.lt_of_le_of_lt (Nat.zero_le x) h, zf1⟩
      · split
        · exact ⟨Nat.lt_of_le_of_lt (Nat.zero_le x) h, zf2⟩
        · rename_i hA
          have hT := tkT_le (nb := nb) hp
          refine ih _ _ (bhW_lt hV _ _ _ h (fun q a b => ?_)) hT.2
          have hA2 : alL nb (gR P) (tkT nb n p - tkF nb n p) (tkF nb n p) = true := by
            cases hh : alL nb (gR P) (tkT nb n p - tkF nb n p) (tkF nb n p) with
            | false => exact absurd hh hA
            | true => rfl
          exact alL_lt _ _ hA2 q a b

theorem elP_pl {nb : Nat → Nat} {n : Nat} {P : GD} : ∀ k p x, (elP nb n P k p x).1 = 0 → (elP nb n P k p x).2.1 = -1 := by
  intro k
  induction k with
  | zero => intro p x _; rfl
  | succ k ih =>
    intro p x
    unfold elP
    split
    · intro _; rfl
    · split
      · intro h; exact absurd h yf1
      · split
        · intro h; exact absurd h yf2
        · exact ih _ _
theorem c_X7_readElement2 {G : GG} {j nw nx gn : Nat} {g : Nat → Sh} {c : Nat → Nat → Int} {post : Option AV → AM → Prop} {nb : Nat → Nat} {n : Nat} {tk : Nat} {tf : Nat} {tt : Nat} {rr : Nat} {ll : Nat} {ff : Nat} {pl : Int} {bd : Nat → Nat} {P : GD} {e : Nat} (he : e = 21 ∨ e = 35) (hS : c 1 1 = ((n : Nat) : Int)) (hn : n ≤ 300) (hB : ∀ i, nb i < 256) (hT : ∀ i, i < 300 → c 2 i = sb (nb i)) (hE : EL c e P) (hV : GV P) (h0 : 0 < gN P) (K1 : (elP nb n P 300 0 0).1 = 0 → ∀ tk tf tt : Nat, post (some (vi (((elP nb n P 300 0 0).2.2 : Nat) : Int))) (S nw nx g, 78 + gn, (pm c tk tf tt rr ll 0 (-1) bd))) (K2 : (elP nb n P 300 0 0).1 ≠ 0 → ∀ tk tf tt x : Nat, post (some (vi ((x : Nat) : Int))) (S nw nx g, 78 + gn, (pm c tk tf tt rr ll (elP nb n P 300 0 0).1 (elP nb n P 300 0 0).2.1 bd))) : SM G (j + 4) mX7_readElement [vr (3), vr (1), vr (e)] (S nw nx g, 78 + gn, (pm c tk tf tt rr ll ff pl bd)) 0 0 post := by
  refine c_X7_readElement he hS hn hB hT hE hV h0 ?_
  intro tk tf tt ff2 x2 pl2 a1 a2 a3
  by_cases h : (elP nb n P 300 0 0).1 = 0
  · have e := elP_pl (nb := nb) (n := n) (P := P) 300 0 0 h
    rw [a1, a2, a3 h, e, h]
    exact K1 h tk tf tt
  · rw [a1, a2]
    exact K2 h tk tf tt x2

set_option maxHeartbeats 2000000 in
set_option maxRecDepth 20000 in
theorem g_X8_element_0 {G : GG} {j nw nx gn : Nat} {g : Nat → Sh} {c : Nat → Nat → Int} {post : Option AV → AM → Prop} {nb : Nat → Nat} {n : Nat} {tk : Nat} {tf : Nat} {tt : Nat} {rr : Nat} {ll : Nat} {ff : Nat} {pl : Int} {bd : Nat → Nat} {P : GD} (hnw : nw = 21 ∨ nw = 35) (hS : c 1 1 = ((n : Nat) : Int)) (hn : n ≤ 300) (hB : ∀ i, nb i < 256) (hT : ∀ i, i < 300 → c 2 i = sb (nb i)) (hE : EL c nw P) (hV : GV P)  (hv : (gN P < 2147483648) ∧ (((gN P ≠ 0) → (0 < gN P) ∧ (((elP nb n P 300 0 0).1 = 0) → ∀ tk_1 tf_1 tt_1 : Nat, post (some (vi ((((elP nb n P 300 0 0).2.2 : Nat) : Int)))) (S nw nx g, 78 + gn, (up2 (pm c tk_1 tf_1 tt_1 rr ll 0 (-1) bd) 1 1 0))) ∧ (((elP nb n P 300 0 0).1 ≠ 0) → ∀ tk_1b tf_1b tt_1b x_1 : Nat, ((elP nb n P 300 0 0).1 < 2147483648) ∧ ((((elP nb n P 300 0 0).1 = 0) → post (some (vi (((x_1 : Nat) : Int)))) (S nw nx g, 78 + gn, (up2 (pm c tk_1b tf_1b tt_1b rr ll ((elP nb n P 300 0 0).1) ((elP nb n P 300 0 0).2.1) bd) 1 1 0))) ∧ ((¬ ((elP nb n P 300 0 0).1 = 0)) → post (some (vi ((-4)))) (S nw nx g, 78 + gn, (up2 (pm c tk_1b tf_1b tt_1b rr ll ((elP nb n P 300 0 0).1) ((elP nb n P 300 0 0).2.1) bd) 1 1 0)))))) ∧ ((gN P = 0) → post (some (vi ((-2)))) (S nw nx g, 78 + gn, (up2 (pm c tk tf tt rr ll ff pl bd) 1 1 0))))) :
    SW G (j + 4) mX8_element 0 [some (vr (0)), none] [] (S nw nx g, 78 + gn, (pm c tk tf tt rr ll ff pl bd)) B0 post := by
  refine sw_aload_n (dX8_element.at 0 rfl) rfl rfl ?_
  refine sw_getR (dX8_element.at 1 rfl) fp_X8_65 (S_lt 0 (by decide)) (S_0 nw nx g) rfl rfl ?_
  refine sw_getIE (w := ((gN P : Nat) : Int)) (dX8_element.at 2 rfl) fp_X8_103 (S_e_lt hnw) (S_e hnw) rfl (EL_N (EL_pm hE hnw)) ?_
  refine sw_ifN_ne (gN P) (tgt := 21) (dX8_element.at 3 rfl) (by decide) hv.1 (fun q => ?_) (fun q => ?_)
  · replace hv := hv.2.1 q
    refine sw_aload_n (dX8_element.at 10 rfl) rfl rfl ?_
    refine sw_getR (dX8_element.at 11 rfl) fp_X8_19 (S_lt 0 (by decide)) (S_0 nw nx g) rfl rfl ?_
    refine sw_aload_n (dX8_element.at 12 rfl) rfl rfl ?_
    refine sw_getR (dX8_element.at 13 rfl) fp_X8_10 (S_lt 0 (by decide)) (S_0 nw nx g) rfl rfl ?_
    refine sw_aload_n (dX8_element.at 14 rfl) rfl rfl ?_
    refine sw_getR (dX8_element.at 15 rfl) fp_X8_65 (S_lt 0 (by decide)) (S_0 nw nx g) rfl rfl ?_
    refine sw_callV (B' := B0) (As := [vr (1), vr (nw)]) (mc := 0) (ms := 0) (dX8_element.at 16 rfl) lk_X8_140 (S_lt 3 (by decide)) (S_3 nw nx g) rfl rfl (Nat.le_of_ble_eq_true rfl) rfl (Nat.le_refl _) (Nat.le_refl _) ?_
    refine c_X7_readElement2 (j := j + 0) hnw hS hn hB hT hE hV hv.1 (fun q tk_1 tf_1 tt_1 => ?_) (fun q tk_1b tf_1b tt_1b x_1 => ?_) 
    · replace hv := hv.2.1 q tk_1 tf_1 tt_1
      refine sw_istore_n (lo' := [some (vr (0)), some (vi ((((elP nb n P 300 0 0).2.2 : Nat) : Int)))]) (dX8_element.at 17 rfl) rfl (by decide) rfl ?_
      refine sw_aload_n (dX8_element.at 18 rfl) rfl rfl ?_
      refine sw_getR (dX8_element.at 19 rfl) fp_X8_10 (S_lt 0 (by decide)) (S_0 nw nx g) rfl rfl ?_
      refine sw_iconst (dX8_element.at 20 rfl) ?_
      refine sw_putI (dX8_element.at 21 rfl) fp_X8_76 (S_lt 1 (by decide)) (S_1 nw nx g) rfl ?_
      refine sw_aload_n (dX8_element.at 22 rfl) rfl rfl ?_
      refine sw_getR (dX8_element.at 23 rfl) fp_X8_19 (S_lt 0 (by decide)) (S_0 nw nx g) rfl rfl ?_
      refine sw_getIE (w := 0) (dX8_element.at 24 rfl) fp_X8_87 (S_lt 3 (by decide)) (S_3 nw nx g) rfl ((up2_ne (c := (pm c tk_1 tf_1 tt_1 rr ll 0 (-1) bd)) (i := 1) (k := 1) (z := 0) (i' := 3) (k' := 3) (Or.inl (by decide))).trans rfl) ?_
      refine sw_if_eq (tgt := 60) (dX8_element.at 25 rfl) (by decide) (by decide) (fun q => ?_) (fun q => ?_)
      · clear q
        refine sw_iload_n (dX8_element.at 28 rfl) rfl rfl ?_
        exact sw_iret (dX8_element.at 29 rfl) rfl (Nat.le_refl _) (Nat.le_refl _) hv
      · exact absurd q (by decide)
    · replace hv := hv.2.2 q tk_1b tf_1b tt_1b x_1
      refine sw_istore_n (lo' := [some (vr (0)), some (vi (((x_1 : Nat) : Int)))]) (dX8_element.at 17 rfl) rfl (by decide) rfl ?_
      refine sw_aload_n (dX8_element.at 18 rfl) rfl rfl ?_
      refine sw_getR (dX8_element.at 19 rfl) fp_X8_10 (S_lt 0 (by decide)) (S_0 nw nx g) rfl rfl ?_
      refine sw_iconst (dX8_element.at 20 rfl) ?_
      refine sw_putI (dX8_element.at 21 rfl) fp_X8_76 (S_lt 1 (by decide)) (S_1 nw nx g) rfl ?_
      refine sw_aload_n (dX8_element.at 22 rfl) rfl rfl ?_
      refine sw_getR (dX8_element.at 23 rfl) fp_X8_19 (S_lt 0 (by decide)) (S_0 nw nx g) rfl rfl ?_
      refine sw_getIE (w := (((elP nb n P 300 0 0).1 : Nat) : Int)) (dX8_element.at 24 rfl) fp_X8_87 (S_lt 3 (by decide)) (S_3 nw nx g) rfl ((up2_ne (c := (pm c tk_1b tf_1b tt_1b rr ll ((elP nb n P 300 0 0).1) ((elP nb n P 300 0 0).2.1) bd)) (i := 1) (k := 1) (z := 0) (i' := 3) (k' := 3) (Or.inl (by decide))).trans rfl) ?_
      refine sw_ifN_eq ((elP nb n P 300 0 0).1) (tgt := 60) (dX8_element.at 25 rfl) (by decide) hv.1 (fun q => ?_) (fun q => ?_)
      · replace hv := hv.2.1 q
        refine sw_iload_n (dX8_element.at 28 rfl) rfl rfl ?_
        exact sw_iret (dX8_element.at 29 rfl) rfl (Nat.le_refl _) (Nat.le_refl _) hv
      · replace hv := hv.2.2 q
        refine sw_bipush (dX8_element.at 26 rfl) (by decide) ?_
        refine sw_goto (tgt := 61) (dX8_element.at 27 rfl) (by decide) ?_
        exact sw_iret (dX8_element.at 29 rfl) rfl (Nat.le_refl _) (Nat.le_refl _) hv
  · replace hv := hv.2.2 q
    refine sw_aload_n (dX8_element.at 4 rfl) rfl rfl ?_
    refine sw_getR (dX8_element.at 5 rfl) fp_X8_10 (S_lt 0 (by decide)) (S_0 nw nx g) rfl rfl ?_
    refine sw_iconst (dX8_element.at 6 rfl) ?_
    refine sw_putI (dX8_element.at 7 rfl) fp_X8_76 (S_lt 1 (by decide)) (S_1 nw nx g) rfl ?_
    refine sw_bipush (dX8_element.at 8 rfl) (by decide) ?_
    exact sw_iret (dX8_element.at 9 rfl) rfl (Nat.le_refl _) (Nat.le_refl _) hv

set_option maxHeartbeats 4000000 in
theorem c_X8_element {G : GG} {j nw nx gn : Nat} {g : Nat → Sh} {c : Nat → Nat → Int} {post : Option AV → AM → Prop} {nb : Nat → Nat} {n : Nat} {tk : Nat} {tf : Nat} {tt : Nat} {rr : Nat} {ll : Nat} {ff : Nat} {pl : Int} {bd : Nat → Nat} {P : GD} (hnw : nw = 21 ∨ nw = 35) (hS : c 1 1 = ((n : Nat) : Int)) (hn : n ≤ 300) (hB : ∀ i, nb i < 256) (hT : ∀ i, i < 300 → c 2 i = sb (nb i)) (hE : EL c nw P) (hV : GV P) (K0 : gN P = 0 → post (some (vi (-2))) (S nw nx g, 78 + gn, (up2 (pm c tk tf tt rr ll ff pl bd) 1 1 0))) (K : ¬ gN P = 0 → ∀ (tk tf tt ff2 : Nat) (pl2 : Int), ff2 = (elP nb n P 300 0 0).1 → pl2 = (elP nb n P 300 0 0).2.1 → post (some (vi (qel (elP nb n P 300 0 0)))) (S nw nx g, 78 + gn, (up2 (pm c tk tf tt rr ll ff2 pl2 bd) 1 1 0))) : SM G (j + 5) mX8_element [vr 0] (S nw nx g, 78 + gn, (pm c tk tf tt rr ll ff pl bd)) 0 0 post := by
  refine sm_of wX8_element rfl (Nat.le_of_ble_eq_true rfl) ?_
  have hN := GV_N hV
  refine g_X8_element_0 hnw hS hn hB hT hE hV ?_
  by_cases h0 : gN P = 0
  · refine ⟨?_, ⟨fun q => ⟨?_, fun q => fun tk_1 tf_1 tt_1 => ?_, fun q => fun tk_1b tf_1b tt_1b x_1 => ⟨?_, ⟨fun q => ?_, fun q => ?_⟩⟩⟩, fun q => ?_⟩⟩
    all_goals first | omega | exact K0 h0 | (exfalso; omega)
  · have hl := elP_lt (nb := nb) (n := n) hV 300 0 0 (by omega) (Nat.zero_le _)
    have K := K h0
    by_cases h1 : (elP nb n P 300 0 0).1 = 0
    · have e := elP_pl (nb := nb) (n := n) (P := P) 300 0 0 h1
      have e2 : qel (elP nb n P 300 0 0) = (((elP nb n P 300 0 0).2.2 : Nat) : Int) := if_pos h1
      rw [e2] at K
      refine ⟨?_, ⟨fun q => ⟨?_, fun q => fun tk_1 tf_1 tt_1 => ?_, fun q => fun tk_1b tf_1b tt_1b x_1 => ⟨?_, ⟨fun q => ?_, fun q => ?_⟩⟩⟩, fun q => ?_⟩⟩
      all_goals first | omega | (exfalso; omega) | exact K _ _ _ _ _ h1.symm e.symm
    · have e2 : qel (elP nb n P 300 0 0) = -4 := if_neg h1
      rw [e2] at K
      refine ⟨?_, ⟨fun q => ⟨?_, fun q => fun tk_1 tf_1 tt_1 => ?_, fun q => fun tk_1b tf_1b tt_1b x_1 => ⟨?_, ⟨fun q => ?_, fun q => ?_⟩⟩⟩, fun q => ?_⟩⟩
      all_goals first | omega | (exfalso; omega) | exact K _ _ _ _ _ rfl rfl

set_option maxHeartbeats 2000000 in
set_option maxRecDepth 20000 in
theorem g_X9_is_rm {G : GG} {j nw nx gn : Nat} {g : Nat → Sh} {c : Nat → Nat → Int} {post : Option AV → AM → Prop} {nb : Nat → Nat} {n : Nat} {ra : Nat} {rb : Nat} {rt : Nat} {rv : Nat} {rz : Bool} {fk : Nat} {fp : Int} {rk : Nat} {ln : Nat} {bo : Nat → Nat} (hS : c 49 1 = ((n : Nat) : Int)) (hn : n ≤ 300) (hB : ∀ i, nb i < 256) (hT : ∀ i, i < 300 → c 50 i = ((nb i : Nat) : Int))  (hv : (ln < 2147483648) ∧ (((((ln : Nat) : Int) ≤ 0) → post (some (vi (0))) (S nw nx g, 78 + gn, (rm c ra rb rt rv rz fk fp rk ln bo))) ∧ ((¬ (((ln : Nat) : Int) ≤ 0)) → post (some (vi (1))) (S nw nx g, 78 + gn, (rm c ra rb rt rv rz fk fp rk ln bo))))) :
    SW G (j + 0) mX9_is 0 [some (vr (49))] [] (S nw nx g, 78 + gn, (rm c ra rb rt rv rz fk fp rk ln bo)) B0 post := by
  refine sw_aload_n (dX9_is.at 0 rfl) rfl rfl ?_
  refine sw_getIE (w := ((ln : Nat) : Int)) (dX9_is.at 1 rfl) fp_X9_180 (S_lt 49 (by decide)) (S_49 nw nx g) rfl rfl ?_
  refine sw_if_le (tgt := 11) (dX9_is.at 2 rfl) (by decide) (nrng hv.1) (fun q => ?_) (fun q => ?_)
  · replace hv := hv.2.1 q
    refine sw_iconst (dX9_is.at 5 rfl) ?_
    exact sw_zret (dX9_is.at 6 rfl) rfl (by decide) (Nat.le_refl _) (Nat.le_refl _) hv
  · replace hv := hv.2.2 q
    refine sw_iconst (dX9_is.at 3 rfl) ?_
    refine sw_goto (tgt := 12) (dX9_is.at 4 rfl) (by decide) ?_
    exact sw_zret (dX9_is.at 6 rfl) rfl (by decide) (Nat.le_refl _) (Nat.le_refl _) hv

theorem c_X9_is_rm {G : GG} {j nw nx gn : Nat} {g : Nat → Sh} {c : Nat → Nat → Int} {post : Option AV → AM → Prop} {nb : Nat → Nat} {n : Nat} {ra : Nat} {rb : Nat} {rt : Nat} {rv : Nat} {rz : Bool} {fk : Nat} {fp : Int} {rk : Nat} {ln : Nat} {bo : Nat → Nat} (hS : c 49 1 = ((n : Nat) : Int)) (hn : n ≤ 300) (hB : ∀ i, nb i < 256) (hT : ∀ i, i < 300 → c 50 i = ((nb i : Nat) : Int)) (p1 : ln < 1000) (K : post (some (vi (bz (decide (0 < ln))))) (S nw nx g, 78 + gn, (rm c ra rb rt rv rz fk fp rk ln bo))) : SM G (j + 1) mX9_is [vr 49] (S nw nx g, 78 + gn, (rm c ra rb rt rv rz fk fp rk ln bo)) 0 0 post := by
  refine sm_of wX9_is rfl (Nat.le_of_ble_eq_true rfl) ?_
  have K1 : ∀ v : Int, v = bz (decide (0 < ln)) → post (some (vi v)) (S nw nx g, 78 + gn, (rm c ra rb rt rv rz fk fp rk ln bo)) := fun v h => h ▸ K
  refine g_X9_is_rm hS hn hB hT ?_
  refine ⟨?_, ⟨fun q => ?_, fun q => ?_⟩⟩
  all_goals first | omega | (refine K1 _ ?_; unfold bz; split <;> rename_i hh <;> simp only [decide_eq_true_eq, decide_eq_false_iff_not] at * <;> first | rfl | (exfalso; omega))

set_option maxHeartbeats 2000000 in
set_option maxRecDepth 20000 in
theorem g_X9_element_0 {G : GG} {j nw nx gn : Nat} {g : Nat → Sh} {c : Nat → Nat → Int} {post : Option AV → AM → Prop} {nb : Nat → Nat} {n : Nat} {ra : Nat} {rb : Nat} {rt : Nat} {rv : Nat} {rz : Bool} {fk : Nat} {fp : Int} {ln : Nat} {bo : Nat → Nat} {P : GD} (hS : c 49 1 = ((n : Nat) : Int)) (hn : n ≤ 300) (hB : ∀ i, nb i < 256) (hT : ∀ i, i < 300 → c 50 i = ((nb i : Nat) : Int)) (hH : ∀ x s, x < gN P → s < gR P → c 54 (5 * x + s) = (gS P x s : Int)) (hV : GV P)  (hv : (ln < 1000) ∧ ((((decide (0 < ln)) = true) → SW G (j + 4) mX9_element 21 [some (vr (49)), some (vi (0)), none] [] (S nw nx g, 78 + gn, (rm c (tkT nb n 0) (tkF nb n 0) (tkK nb n 0) (vlS nb n 0) false 0 (-1) (gR P) ln bo)) B0 post) ∧ (((decide (0 < ln)) = false) → post (some (vi ((-2)))) (S nw nx g, 78 + gn, (up2 (rm c ra rb rt rv rz fk fp (gR P) ln bo) 49 1 0))))) :
    SW G (j + 4) mX9_element 0 [some (vr (49)), none, none] [] (S nw nx g, 78 + gn, (rm c ra rb rt rv rz fk fp (gR P) ln bo)) B0 post := by
  refine sw_aload_n (dX9_element_0.at 0 rfl) rfl rfl ?_
  refine sw_callV (B' := B0) (As := []) (mc := 0) (ms := 0) (dX9_element_0.at 1 rfl) lk_X9_248 (S_lt 49 (by decide)) (S_49 nw nx g) rfl rfl (Nat.le_of_ble_eq_true rfl) rfl (Nat.le_refl _) (Nat.le_refl _) ?_
  refine c_X9_is_rm (j := j + 3) hS hn hB hT hv.1 ?_
  replace hv := hv.2
  refine sw_if_ne (tgt := 15) (dX9_element_0.at 2 rfl) (by decide) (bz_rng _) (fun q => ?_) (fun q => ?_)
  · replace hv := hv.1 (bz_1 q)
    refine sw_aload_n (dX9_element_0.at 8 rfl) rfl rfl ?_
    refine sw_callV (B' := B0) (As := []) (mc := 0) (ms := 0) (dX9_element_0.at 9 rfl) lk_X9_177 (S_lt 49 (by decide)) (S_49 nw nx g) rfl rfl (Nat.le_of_ble_eq_true rfl) rfl (Nat.le_refl _) (Nat.le_refl _) ?_
    refine c_X9_begins (j := j + 0) hS hn hB hT ?_
    refine sw_iconst (dX9_element_0.at 10 rfl) ?_
    refine sw_istore_n (lo' := [some (vr (49)), some (vi (0)), none]) (dX9_element_0.at 11 rfl) rfl (by decide) rfl ?_
    exact hv
  · replace hv := hv.2 (bz_n1 q)
    refine sw_aload_n (dX9_element_0.at 3 rfl) rfl rfl ?_
    refine sw_iconst (dX9_element_0.at 4 rfl) ?_
    refine sw_putI (dX9_element_0.at 5 rfl) fp_X9_101 (S_lt 49 (by decide)) (S_49 nw nx g) rfl ?_
    refine sw_bipush (dX9_element_0.at 6 rfl) (by decide) ?_
    exact sw_iret (dX9_element_0.at 7 rfl) rfl (Nat.le_refl _) (Nat.le_refl _) hv

set_option maxHeartbeats 2000000 in
set_option maxRecDepth 20000 in
theorem g_X9_element_21 {G : GG} {j nw nx gn : Nat} {g : Nat → Sh} {c : Nat → Nat → Int} {post : Option AV → AM → Prop} {nb : Nat → Nat} {n : Nat} {ln : Nat} {bo : Nat → Nat} {P : GD} {p : Nat} {v : Nat} (hS : c 49 1 = ((n : Nat) : Int)) (hn : n ≤ 300) (hB : ∀ i, nb i < 256) (hT : ∀ i, i < 300 → c 50 i = ((nb i : Nat) : Int)) (hH : ∀ x s, x < gN P → s < gR P → c 54 (5 * x + s) = (gS P x s : Int)) (hV : GV P)  (hv : (tkK nb n p < 2147483648) ∧ (((tkK nb n p = 0) → post (some (vi (((v : Nat) : Int)))) (S nw nx g, 78 + gn, (up2 (rm c (tkT nb n p) (tkF nb n p) (tkK nb n p) (vlS nb n p) false 0 (-1) (gR P) ln bo) 49 1 0))) ∧ ((¬ (tkK nb n p = 0)) → (tkK nb n p < 2147483648) ∧ (((tkK nb n p = 1) → SW G (j + 4) mX9_element 53 [some (vr (49)), some (vi (((v : Nat) : Int))), some (vi (((tkF nb n p : Nat) : Int)))] [] (S nw nx g, 78 + gn, (rm c (tkT nb n p) (tkF nb n p) (tkK nb n p) (vlS nb n p) false 0 (-1) (gR P) ln bo)) B0 post) ∧ ((¬ (tkK nb n p = 1)) → SW G (j + 4) mX9_element 53 [some (vr (49)), some (vi (((v : Nat) : Int))), some (vi (((tkF nb n p : Nat) : Int)))] [] (S nw nx g, 78 + gn, (rm c (tkT nb n p) (tkF nb n p) (tkK nb n p) (vlS nb n p) true 1 ((tkF nb n p : Nat) : Int) (gR P) ln bo)) B0 post))))) :
    SW G (j + 4) mX9_element 21 [some (vr (49)), some (vi (((v : Nat) : Int))), none] [] (S nw nx g, 78 + gn, (rm c (tkT nb n p) (tkF nb n p) (tkK nb n p) (vlS nb n p) false 0 (-1) (gR P) ln bo)) B0 post := by
  refine sw_aload_n (dX9_element_0.at 12 rfl) rfl rfl ?_
  refine sw_getIE (w := bz (false)) (dX9_element_0.at 13 rfl) fp_X9_131 (S_lt 49 (by decide)) (S_49 nw nx g) rfl rfl ?_
  refine sw_if_ne (tgt := 125) (dX9_element_0.at 14 rfl) (by decide) (by decide) (fun q => ?_) (fun q => ?_)
  · exact absurd q (by decide)
  · clear q
    refine sw_aload_n (dX9_element_0.at 15 rfl) rfl rfl ?_
    refine sw_getIE (w := ((tkK nb n p : Nat) : Int)) (dX9_element_0.at 16 rfl) fp_X9_121 (S_lt 49 (by decide)) (S_49 nw nx g) rfl rfl ?_
    refine sw_ifN_eq (tkK nb n p) (tgt := 125) (dX9_element_0.at 17 rfl) (by decide) hv.1 (fun q => ?_) (fun q => ?_)
    · replace hv := hv.2.1 q
      refine sw_aload_n (dX9_element_1.at 18 rfl) rfl rfl ?_
      refine sw_iconst (dX9_element_1.at 19 rfl) ?_
      refine sw_putI (dX9_element_1.at 20 rfl) fp_X9_101 (S_lt 49 (by decide)) (S_49 nw nx g) rfl ?_
      refine sw_aload_n (dX9_element_1.at 21 rfl) rfl rfl ?_
      refine sw_getIE (w := bz (false)) (dX9_element_1.at 22 rfl) fp_X9_131 (S_lt 49 (by decide)) (S_49 nw nx g) rfl ((up2_ne (c := (rm c (tkT nb n p) (tkF nb n p) (tkK nb n p) (vlS nb n p) false 0 (-1) (gR P) ln bo)) (i := 49) (k := 1) (z := 0) (i' := 49) (k' := 12) (Or.inr (by decide))).trans rfl) ?_
      refine sw_if_eq (tgt := 142) (dX9_element_1.at 23 rfl) (by decide) (by decide) (fun q => ?_) (fun q => ?_)
      · clear q
        refine sw_iload_n (dX9_element_1.at 26 rfl) rfl rfl ?_
        exact sw_iret (dX9_element_1.at 27 rfl) rfl (Nat.le_refl _) (Nat.le_refl _) hv
      · exact absurd q (by decide)
    · replace hv := hv.2.2 q
      refine sw_aload_n (dX9_element_0.at 18 rfl) rfl rfl ?_
      refine sw_getIE (w := ((tkK nb n p : Nat) : Int)) (dX9_element_0.at 19 rfl) fp_X9_121 (S_lt 49 (by decide)) (S_49 nw nx g) rfl rfl ?_
      refine sw_iconst (dX9_element_0.at 20 rfl) ?_
      refine sw_icmpN_eq (tkK nb n p) 1 (tgt := 48) (dX9_element_0.at 21 rfl) (by decide) hv.1 (by decide) (fun q => ?_) (fun q => ?_)
      · replace hv := hv.2.1 q
        refine sw_aload_n (dX9_element_0.at 25 rfl) rfl rfl ?_
        refine sw_getIE (w := ((tkF nb n p : Nat) : Int)) (dX9_element_0.at 26 rfl) fp_X9_115 (S_lt 49 (by decide)) (S_49 nw nx g) rfl rfl ?_
        refine sw_istore_n (lo' := [some (vr (49)), some (vi (((v : Nat) : Int))), some (vi (((tkF nb n p : Nat) : Int)))]) (dX9_element_0.at 27 rfl) rfl (by decide) rfl ?_
        exact hv
      · replace hv := hv.2.2 q
        refine sw_aload_n (dX9_element_0.at 22 rfl) rfl rfl ?_
        refine sw_iconst (dX9_element_0.at 23 rfl) ?_
        refine sw_callV (B' := B0) (As := [vi (1)]) (mc := 0) (ms := 0) (dX9_element_0.at 24 rfl) lk_X9_151 (S_lt 49 (by decide)) (S_49 nw nx g) rfl rfl (Nat.le_of_ble_eq_true rfl) rfl (Nat.le_refl _) (Nat.le_refl _) ?_
        refine c_X9_faults_f (w := 1) (j := j + 3) hS hn hB hT ?_
        refine sw_aload_n (dX9_element_0.at 25 rfl) rfl rfl ?_
        refine sw_getIE (w := ((tkF nb n p : Nat) : Int)) (dX9_element_0.at 26 rfl) fp_X9_115 (S_lt 49 (by decide)) (S_49 nw nx g) rfl rfl ?_
        refine sw_istore_n (lo' := [some (vr (49)), some (vi (((v : Nat) : Int))), some (vi (((tkF nb n p : Nat) : Int)))]) (dX9_element_0.at 27 rfl) rfl (by decide) rfl ?_
        exact hv

set_option maxHeartbeats 2000000 in
set_option maxRecDepth 20000 in
theorem g_X9_element_53 {G : GG} {j nw nx gn : Nat} {g : Nat → Sh} {c : Nat → Nat → Int} {post : Option AV → AM → Prop} {nb : Nat → Nat} {n : Nat} {ln : Nat} {bo : Nat → Nat} {P : GD} {p : Nat} {v : Nat} {u : Nat} (hS : c 49 1 = ((n : Nat) : Int)) (hn : n ≤ 300) (hB : ∀ i, nb i < 256) (hT : ∀ i, i < 300 → c 50 i = ((nb i : Nat) : Int)) (hH : ∀ x s, x < gN P → s < gR P → c 54 (5 * x + s) = (gS P x s : Int)) (hV : GV P)  (hv : (u < 2147483648) ∧ (tkT nb n p < 2147483648) ∧ (((tkT nb n p ≤ u) → (p ≤ n) ∧ (SW G (j + 4) mX9_element 21 [some (vr (49)), some (vi (((v : Nat) : Int))), none] [] (S nw nx g, 78 + gn, (rm c (tkT nb n (tkT nb n p)) (tkF nb n (tkT nb n p)) (tkK nb n (tkT nb n p)) (vlS nb n (tkT nb n p)) false 0 (-1) (gR P) ln bo)) B0 post)) ∧ ((¬ (tkT nb n p ≤ u)) → (u < 300) ∧ ((97 ≤ nb u) ∧ (((nb u) - 97 < 2147483648) ∧ (gR P < 2147483648) ∧ ((((nb u) - 97 < gR P) → (u < 300) ∧ ((97 ≤ (5 * v) + (nb u)) ∧ ((v < gN P) ∧ (97 ≤ nb u) ∧ (nb u - 97 < gR P) ∧ (5 * v + nb u - 97 < 300) ∧ (SW G (j + 4) mX9_element 53 [some (vr (49)), some (vi (((gS P v (nb u - 97) : Nat) : Int))), some (vi (((u + 1 : Nat) : Int)))] [] (S nw nx g, 78 + gn, (rm c (tkT nb n p) (tkF nb n p) (tkK nb n p) (vlS nb n p) false 0 (-1) (gR P) ln bo)) B0 post)))) ∧ ((¬ ((nb u) - 97 < gR P)) → SW G (j + 4) mX9_element 53 [some (vr (49)), some (vi (((v : Nat) : Int))), some (vi (((u + 1 : Nat) : Int)))] [] (S nw nx g, 78 + gn, (rm c (tkT nb n p) (tkF nb n p) (tkK nb n p) (vlS nb n p) true 2 ((tkF nb n p : Nat) : Int) (gR P) ln bo)) B0 post))))))) :
    SW G (j + 4) mX9_element 53 [some (vr (49)), some (vi (((v : Nat) : Int))), some (vi (((u : Nat) : Int)))] [] (S nw nx g, 78 + gn, (rm c (tkT nb n p) (tkF nb n p) (tkK nb n p) (vlS nb n p) false 0 (-1) (gR P) ln bo)) B0 post := by
  refine sw_iload_n (dX9_element_0.at 28 rfl) rfl rfl ?_
  refine sw_aload_n (dX9_element_0.at 29 rfl) rfl rfl ?_
  refine sw_getIE (w := ((tkT nb n p : Nat) : Int)) (dX9_element_0.at 30 rfl) fp_X9_108 (S_lt 49 (by decide)) (S_49 nw nx g) rfl rfl ?_
  refine sw_icmpN_ge u (tkT nb n p) (tgt := 117) (dX9_element_0.at 31 rfl) (by decide) hv.1 hv.2.1 (fun q => ?_) (fun q => ?_)
  · replace hv := hv.2.2.1 q
    refine sw_aload_n (dX9_element_1.at 14 rfl) rfl rfl ?_
    refine sw_iconst (dX9_element_1.at 15 rfl) ?_
    refine sw_callV (B' := B0) (As := [vi (1)]) (mc := 0) (ms := 0) (dX9_element_1.at 16 rfl) lk_X9_155 (S_lt 49 (by decide)) (S_49 nw nx g) rfl rfl (Nat.le_of_ble_eq_true rfl) rfl (Nat.le_refl _) (Nat.le_refl _) ?_
    refine c_X9_passes_f1 (j := j + 0) hS hn hB hT hv.1 ?_
    replace hv := hv.2
    refine sw_goto (tgt := 21) (dX9_element_1.at 17 rfl) (by decide) ?_
    exact sw_mask (bs := [true, true, false]) hv
  · replace hv := hv.2.2.2 q
    refine sw_aload_n (dX9_element_0.at 32 rfl) rfl rfl ?_
    refine sw_getIE (w := bz (false)) (dX9_element_0.at 33 rfl) fp_X9_131 (S_lt 49 (by decide)) (S_49 nw nx g) rfl rfl ?_
    refine sw_if_ne (tgt := 117) (dX9_element_0.at 34 rfl) (by decide) (by decide) (fun q => ?_) (fun q => ?_)
    · exact absurd q (by decide)
    · clear q
      refine sw_aload_n (dX9_element_0.at 35 rfl) rfl rfl ?_
      refine sw_getR (dX9_element_0.at 36 rfl) fp_X9_7 (S_lt 49 (by decide)) (S_49 nw nx g) rfl rfl ?_
      refine sw_iload_n (dX9_element_0.at 37 rfl) rfl rfl ?_
      refine sw_ialdN u (w := ((nb u : Nat) : Int)) (dX9_element_0.at 38 rfl) (S_lt 50 (by decide)) (S_50 nw nx g) (by decide) hv.1 (hT _ hv.1) ?_
      replace hv := hv.2
      refine sw_bipush (dX9_element_0.at 39 rfl) (by decide) ?_
      refine sw_isub (dX9_element_0.at 40 rfl) ?_
      refine sw_topI (y := (((nb u) - 97 : Nat) : Int)) (congrArg _ (Int.ofNat_sub hv.1).symm) ?_
      replace hv := hv.2
      refine sw_aload_n (dX9_element_0.at 41 rfl) rfl rfl ?_
      refine sw_getIE (w := ((gR P : Nat) : Int)) (dX9_element_0.at 42 rfl) fp_X9_159 (S_lt 49 (by decide)) (S_49 nw nx g) rfl rfl ?_
      refine sw_icmpN_lt ((nb u) - 97) (gR P) (tgt := 92) (dX9_element_0.at 43 rfl) (by decide) hv.1 hv.2.1 (fun q => ?_) (fun q => ?_)
      · replace hv := hv.2.2.1 q
        refine sw_aload_n (dX9_element_0.at 48 rfl) rfl rfl ?_
        refine sw_getR (dX9_element_0.at 49 rfl) fp_X9_26 (S_lt 49 (by decide)) (S_49 nw nx g) rfl rfl ?_
        refine sw_iconst (dX9_element_1.at 0 rfl) ?_
        refine sw_iload_n (dX9_element_1.at 1 rfl) rfl rfl ?_
        refine sw_imul (dX9_element_1.at 2 rfl) ?_
        refine sw_topI (y := ((5 * v : Nat) : Int)) (by first | rfl | (congr 1)) ?_
        refine sw_aload_n (dX9_element_1.at 3 rfl) rfl rfl ?_
        refine sw_getR (dX9_element_1.at 4 rfl) fp_X9_7 (S_lt 49 (by decide)) (S_49 nw nx g) rfl rfl ?_
        refine sw_iload_n (dX9_element_1.at 5 rfl) rfl rfl ?_
        refine sw_ialdN u (w := ((nb u : Nat) : Int)) (dX9_element_1.at 6 rfl) (S_lt 50 (by decide)) (S_50 nw nx g) (by decide) hv.1 (hT _ hv.1) ?_
        replace hv := hv.2
        refine sw_iadd (dX9_element_1.at 7 rfl) ?_
        refine sw_topI (y := (((5 * v) + (nb u) : Nat) : Int)) (by first | rfl | (congr 1)) ?_
        refine sw_bipush (dX9_element_1.at 8 rfl) (by decide) ?_
        refine sw_isub (dX9_element_1.at 9 rfl) ?_
        refine sw_topI (y := ((((5 * v) + (nb u)) - 97 : Nat) : Int)) (congrArg _ (Int.ofNat_sub hv.1).symm) ?_
        replace hv := hv.2
        refine sw_ialdN (((5 * v) + (nb u)) - 97) (w := ((gS P v (nb u - 97) : Nat) : Int)) (dX9_element_1.at 10 rfl) (S_lt 54 (by decide)) (S_54 nw nx g) (by decide) hv.2.2.2.1 (h54 hH hv.1 hv.2.1 hv.2.2.1) ?_
        replace hv := hv.2.2.2.2
        refine sw_istore_n (lo' := [some (vr (49)), some (vi (((gS P v (nb u - 97) : Nat) : Int))), some (vi (((u : Nat) : Int)))]) (dX9_element_1.at 11 rfl) rfl (by decide) rfl ?_
        refine sw_iinc (lo' := [some (vr (49)), some (vi (((gS P v (nb u - 97) : Nat) : Int))), some (vi (((u + 1 : Nat) : Int)))]) (dX9_element_1.at 12 rfl) rfl (by decide) rfl ?_
        refine sw_goto (tgt := 53) (dX9_element_1.at 13 rfl) (by decide) ?_
        exact hv
      · replace hv := hv.2.2.2 q
        refine sw_aload_n (dX9_element_0.at 44 rfl) rfl rfl ?_
        refine sw_iconst (dX9_element_0.at 45 rfl) ?_
        refine sw_callV (B' := B0) (As := [vi (2)]) (mc := 0) (ms := 0) (dX9_element_0.at 46 rfl) lk_X9_151 (S_lt 49 (by decide)) (S_49 nw nx g) rfl rfl (Nat.le_of_ble_eq_true rfl) rfl (Nat.le_refl _) (Nat.le_refl _) ?_
        refine c_X9_faults_f (w := 2) (j := j + 3) hS hn hB hT ?_
        refine sw_goto (tgt := 111) (dX9_element_0.at 47 rfl) (by decide) ?_
        refine sw_iinc (lo' := [some (vr (49)), some (vi (((v : Nat) : Int))), some (vi (((u + 1 : Nat) : Int)))]) (dX9_element_1.at 12 rfl) rfl (by decide) rfl ?_
        refine sw_goto (tgt := 53) (dX9_element_1.at 13 rfl) (by decide) ?_
        exact hv

set_option maxHeartbeats 2000000 in
set_option maxRecDepth 20000 in
theorem g_X9_element_53t {G : GG} {j nw nx gn : Nat} {g : Nat → Sh} {c : Nat → Nat → Int} {post : Option AV → AM → Prop} {nb : Nat → Nat} {n : Nat} {ra : Nat} {rb : Nat} {rt : Nat} {rv : Nat} {fk : Nat} {fp : Int} {ln : Nat} {bo : Nat → Nat} {P : GD} {v : Nat} {u : Nat} (hS : c 49 1 = ((n : Nat) : Int)) (hn : n ≤ 300) (hB : ∀ i, nb i < 256) (hT : ∀ i, i < 300 → c 50 i = ((nb i : Nat) : Int)) (hH : ∀ x s, x < gN P → s < gR P → c 54 (5 * x + s) = (gS P x s : Int)) (hV : GV P)  (hv : (u < 2147483648) ∧ (ra < 2147483648) ∧ (((ra ≤ u) → post (some (vi ((-4)))) (S nw nx g, 78 + gn, (up2 (rm c ra rb rt rv true fk fp (gR P) ln bo) 49 1 0))) ∧ ((¬ (ra ≤ u)) → post (some (vi ((-4)))) (S nw nx g, 78 + gn, (up2 (rm c ra rb rt rv true fk fp (gR P) ln bo) 49 1 0))))) :
    SW G (j + 4) mX9_element 53 [some (vr (49)), some (vi (((v : Nat) : Int))), some (vi (((u : Nat) : Int)))] [] (S nw nx g, 78 + gn, (rm c ra rb rt rv true fk fp (gR P) ln bo)) B0 post := by
  refine sw_iload_n (dX9_element_0.at 28 rfl) rfl rfl ?_
  refine sw_aload_n (dX9_element_0.at 29 rfl) rfl rfl ?_
  refine sw_getIE (w := ((ra : Nat) : Int)) (dX9_element_0.at 30 rfl) fp_X9_108 (S_lt 49 (by decide)) (S_49 nw nx g) rfl rfl ?_
  refine sw_icmpN_ge u ra (tgt := 117) (dX9_element_0.at 31 rfl) (by decide) hv.1 hv.2.1 (fun q => ?_) (fun q => ?_)
  · replace hv := hv.2.2.1 q
    refine sw_aload_n (dX9_element_1.at 14 rfl) rfl rfl ?_
    refine sw_iconst (dX9_element_1.at 15 rfl) ?_
    refine sw_callV (B' := B0) (As := [vi (1)]) (mc := 0) (ms := 0) (dX9_element_1.at 16 rfl) lk_X9_155 (S_lt 49 (by decide)) (S_49 nw nx g) rfl rfl (Nat.le_of_ble_eq_true rfl) rfl (Nat.le_refl _) (Nat.le_refl _) ?_
    refine c_X9_passes_t1 (j := j + 0) hS hn hB hT ?_
    refine sw_goto (tgt := 21) (dX9_element_1.at 17 rfl) (by decide) ?_
    refine sw_aload_n (dX9_element_0.at 12 rfl) rfl rfl ?_
    refine sw_getIE (w := bz (true)) (dX9_element_0.at 13 rfl) fp_X9_131 (S_lt 49 (by decide)) (S_49 nw nx g) rfl rfl ?_
    refine sw_if_ne (tgt := 125) (dX9_element_0.at 14 rfl) (by decide) (by decide) (fun q => ?_) (fun q => ?_)
    · clear q
      refine sw_aload_n (dX9_element_1.at 18 rfl) rfl rfl ?_
      refine sw_iconst (dX9_element_1.at 19 rfl) ?_
      refine sw_putI (dX9_element_1.at 20 rfl) fp_X9_101 (S_lt 49 (by decide)) (S_49 nw nx g) rfl ?_
      refine sw_aload_n (dX9_element_1.at 21 rfl) rfl rfl ?_
      refine sw_getIE (w := bz (true)) (dX9_element_1.at 22 rfl) fp_X9_131 (S_lt 49 (by decide)) (S_49 nw nx g) rfl ((up2_ne (c := (rm c ra rb rt rv true fk fp (gR P) ln bo)) (i := 49) (k := 1) (z := 0) (i' := 49) (k' := 12) (Or.inr (by decide))).trans rfl) ?_
      refine sw_if_eq (tgt := 142) (dX9_element_1.at 23 rfl) (by decide) (by decide) (fun q => ?_) (fun q => ?_)
      · exact absurd q (by decide)
      · clear q
        refine sw_bipush (dX9_element_1.at 24 rfl) (by decide) ?_
        refine sw_goto (tgt := 143) (dX9_element_1.at 25 rfl) (by decide) ?_
        exact sw_iret (dX9_element_1.at 27 rfl) rfl (Nat.le_refl _) (Nat.le_refl _) hv
    · exact absurd q (by decide)
  · replace hv := hv.2.2.2 q
    refine sw_aload_n (dX9_element_0.at 32 rfl) rfl rfl ?_
    refine sw_getIE (w := bz (true)) (dX9_element_0.at 33 rfl) fp_X9_131 (S_lt 49 (by decide)) (S_49 nw nx g) rfl rfl ?_
    refine sw_if_ne (tgt := 117) (dX9_element_0.at 34 rfl) (by decide) (by decide) (fun q => ?_) (fun q => ?_)
    · clear q
      refine sw_aload_n (dX9_element_1.at 14 rfl) rfl rfl ?_
      refine sw_iconst (dX9_element_1.at 15 rfl) ?_
      refine sw_callV (B' := B0) (As := [vi (1)]) (mc := 0) (ms := 0) (dX9_element_1.at 16 rfl) lk_X9_155 (S_lt 49 (by decide)) (S_49 nw nx g) rfl rfl (Nat.le_of_ble_eq_true rfl) rfl (Nat.le_refl _) (Nat.le_refl _) ?_
      refine c_X9_passes_t1 (j := j + 0) hS hn hB hT ?_
      refine sw_goto (tgt := 21) (dX9_element_1.at 17 rfl) (by decide) ?_
      refine sw_aload_n (dX9_element_0.at 12 rfl) rfl rfl ?_
      refine sw_getIE (w := bz (true)) (dX9_element_0.at 13 rfl) fp_X9_131 (S_lt 49 (by decide)) (S_49 nw nx g) rfl rfl ?_
      refine sw_if_ne (tgt := 125) (dX9_element_0.at 14 rfl) (by decide) (by decide) (fun q => ?_) (fun q => ?_)
      · clear q
        refine sw_aload_n (dX9_element_1.at 18 rfl) rfl rfl ?_
        refine sw_iconst (dX9_element_1.at 19 rfl) ?_
        refine sw_putI (dX9_element_1.at 20 rfl) fp_X9_101 (S_lt 49 (by decide)) (S_49 nw nx g) rfl ?_
        refine sw_aload_n (dX9_element_1.at 21 rfl) rfl rfl ?_
        refine sw_getIE (w := bz (true)) (dX9_element_1.at 22 rfl) fp_X9_131 (S_lt 49 (by decide)) (S_49 nw nx g) rfl ((up2_ne (c := (rm c ra rb rt rv true fk fp (gR P) ln bo)) (i := 49) (k := 1) (z := 0) (i' := 49) (k' := 12) (Or.inr (by decide))).trans rfl) ?_
        refine sw_if_eq (tgt := 142) (dX9_element_1.at 23 rfl) (by decide) (by decide) (fun q => ?_) (fun q => ?_)
        · exact absurd q (by decide)
        · clear q
          refine sw_bipush (dX9_element_1.at 24 rfl) (by decide) ?_
          refine sw_goto (tgt := 143) (dX9_element_1.at 25 rfl) (by decide) ?_
          exact sw_iret (dX9_element_1.at 27 rfl) rfl (Nat.le_refl _) (Nat.le_refl _) hv
      · exact absurd q (by decide)
    · exact absurd q (by decide)

theorem lp_X9_element_t {G : GG} {j nw nx gn : Nat} {g : Nat → Sh} {c : Nat → Nat → Int} {post : Option AV → AM → Prop} {nb : Nat → Nat} {n : Nat} {ra : Nat} {rb : Nat} {rt : Nat} {rv : Nat} {fk : Nat} {fp : Int} {ln : Nat} {bo : Nat → Nat} {P : GD} {v u : Nat} (hS : c 49 1 = ((n : Nat) : Int)) (hn : n ≤ 300) (hB : ∀ i, nb i < 256) (hT : ∀ i, i < 300 → c 50 i = ((nb i : Nat) : Int)) (hH : ∀ x s, x < gN P → s < gR P → c 54 (5 * x + s) = (gS P x s : Int)) (hV : GV P) (p1 : ra < 1000) (p2 : u < 1000) (K : post (some (vi (-4))) (S nw nx g, 78 + gn, (up2 (rm c ra rb rt rv true fk fp (gR P) ln bo) 49 1 0))) : SW G (j + 4) mX9_element 53 [some (vr (49)), some (vi (((v : Nat) : Int))), some (vi (((u : Nat) : Int)))] [] (S nw nx g, 78 + gn, (rm c ra rb rt rv true fk fp (gR P) ln bo)) B0 post := by
  refine g_X9_element_53t hS hn hB hT hH hV ?_
  refine ⟨?_, ?_, ⟨fun q => ?_, fun q => ?_⟩⟩
  all_goals first | omega | exact K
set_option maxHeartbeats 8000000 in
theorem lp_X9_element_53 {G : GG} {j nw nx gn : Nat} {g : Nat → Sh} {c : Nat → Nat → Int} {post : Option AV → AM → Prop} {nb : Nat → Nat} {n : Nat} {p ln : Nat} {bo : Nat → Nat} {P : GD} (hS : c 49 1 = ((n : Nat) : Int)) (hn : n ≤ 300) (hB : ∀ i, nb i < 256) (hT : ∀ i, i < 300 → c 50 i = ((nb i : Nat) : Int)) (hH : ∀ x s, x < gN P → s < gR P → c 54 (5 * x + s) = (gS P x s : Int)) (hV : GV P) (hp : p ≤ n) (hc : tkK nb n p = 1) : ∀ k u v : Nat, u + k = tkT nb n p → tkF nb n p ≤ u → v < gN P → (alL nb (gR P) k u = false → post (some (vi (-4))) (S nw nx g, 78 + gn, (up2 (rm c (tkT nb n p) (tkF nb n p) (tkK nb n p) (vlS nb n p) true 2 ((tkF nb n p : Nat) : Int) (gR P) ln bo) 49 1 0))) → (alL nb (gR P) k u = true → SW G (j + 4) mX9_element 21 [some (vr (49)), some (vi (((bhW P nb k u v : Nat) : Int))), none] [] (S nw nx g, 78 + gn, (rm c (tkT nb n (tkT nb n p)) (tkF nb n (tkT nb n p)) (tkK nb n (tkT nb n p)) (vlS nb n (tkT nb n p)) false 0 (-1) (gR P) ln bo)) B0 post) → SW G (j + 4) mX9_element 53 [some (vr (49)), some (vi (((v : Nat) : Int))), some (vi (((u : Nat) : Int)))] [] (S nw nx g, 78 + gn, (rm c (tkT nb n p) (tkF nb n p) (tkK nb n p) (vlS nb n p) false 0 (-1) (gR P) ln bo)) B0 post := by
  intro k
  have hT1 := tkT_le (nb := nb) hp
  have hF1 := tkF_le (nb := nb) hp
  have hR5 := GV_R hV
  have hN5 := GV_N hV
  induction k with
  | zero =>
    intro u v hu hf hv K1 K2
    refine g_X9_element_53 hS hn hB hT hH hV ?_
    refine ⟨?_, ?_, ⟨fun q => ⟨?_, ?_⟩, fun q => ⟨?_, ⟨?_, ⟨?_, ?_, ⟨fun q => ⟨?_, ⟨?_, ⟨?_, ?_, ?_, ?_, ?_⟩⟩⟩, fun q => ?_⟩⟩⟩⟩⟩⟩
    all_goals first | omega | exact K2 rfl | (exfalso; omega)
  | succ k ih =>
    intro u v hu hf hv K1 K2
    have hd := tk_let hc u hf (by omega)
    simp only [alL, bhW] at K1 K2
    refine g_X9_element_53 hS hn hB hT hH hV ?_
    by_cases h : gR P ≤ nb u - 97
    · rw [if_pos h] at K1 K2
      refine ⟨?_, ?_, ⟨fun q => ⟨?_, ?_⟩, fun q => ⟨?_, ⟨?_, ⟨?_, ?_, ⟨fun q => ⟨?_, ⟨?_, ⟨?_, ?_, ?_, ?_, ?_⟩⟩⟩, fun q => ?_⟩⟩⟩⟩⟩⟩
      all_goals first | omega | (exfalso; omega) | exact lp_X9_element_t hS hn hB hT hH hV (by omega) (by omega) (K1 rfl)
    · rw [if_neg h] at K1 K2
      have h3 := hV.2.2.2.1 v _ hv (by omega : nb u - 97 < gR P)
      refine ⟨?_, ?_, ⟨fun q => ⟨?_, ?_⟩, fun q => ⟨?_, ⟨?_, ⟨?_, ?_, ⟨fun q => ⟨?_, ⟨?_, ⟨?_, ?_, ?_, ?_, ?_⟩⟩⟩, fun q => ?_⟩⟩⟩⟩⟩⟩
      all_goals first | omega | (exfalso; omega) | exact ih _ _ (by omega) (by omega) h3 K1 K2
set_option maxHeartbeats 8000000 in
theorem lp_X9_element {G : GG} {j nw nx gn : Nat} {g : Nat → Sh} {c : Nat → Nat → Int} {post : Option AV → AM → Prop} {nb : Nat → Nat} {n : Nat} {ln : Nat} {bo : Nat → Nat} {P : GD} (hS : c 49 1 = ((n : Nat) : Int)) (hn : n ≤ 300) (hB : ∀ i, nb i < 256) (hT : ∀ i, i < 300 → c 50 i = ((nb i : Nat) : Int)) (hH : ∀ x s, x < gN P → s < gR P → c 54 (5 * x + s) = (gS P x s : Int)) (hV : GV P) : ∀ k p v : Nat, 300 ≤ p + k → p ≤ n → v < gN P → (∀ (ra rb rt rv fk2 : Nat) (rz : Bool) (fp2 : Int), fk2 = (elP nb n P k p v).1 → fp2 = (elP nb n P k p v).2.1 → post (some (vi (qel (elP nb n P k p v)))) (S nw nx g, 78 + gn, (up2 (rm c ra rb rt rv rz fk2 fp2 (gR P) ln bo) 49 1 0))) → SW G (j + 4) mX9_element 21 [some (vr (49)), some (vi (((v : Nat) : Int))), none] [] (S nw nx g, 78 + gn, (rm c (tkT nb n p) (tkF nb n p) (tkK nb n p) (vlS nb n p) false 0 (-1) (gR P) ln bo)) B0 post := by
  intro k
  induction k with
  | zero =>
    intro p v h1 h2 hv K
    have c0 : tkK nb n p = 0 := by
      have := tkF_le (nb := nb) h2
      exact tkK_0.mpr (by omega)
    refine g_X9_element_21 hS hn hB hT hH hV ?_
    refine ⟨?_, ⟨fun q => ?_, fun q => ⟨?_, ⟨fun q => ?_, fun q => ?_⟩⟩⟩⟩
    all_goals first | omega | (exfalso; omega) | exact K _ _ _ _ _ _ _ rfl rfl
  | succ k ih =>
    intro p v h1 h2 hv K
    have hk := tkK_le (nb := nb) (n := n) (p := p)
    have hT1 := tkT_le (nb := nb) h2
    have hF1 := tkF_le (nb := nb) h2
    refine g_X9_element_21 hS hn hB hT hH hV ?_
    by_cases c0 : tkK nb n p = 0
    · have e : elP nb n P (k + 1) p v = (0, -1, v) := by rw [elP, if_pos c0]
      rw [e] at K
      refine ⟨?_, ⟨fun q => ?_, fun q => ⟨?_, ⟨fun q => ?_, fun q => ?_⟩⟩⟩⟩
      all_goals first | omega | (exfalso; omega) | exact K _ _ _ _ _ _ _ rfl rfl
    · have hgt := tkT_gt h2 c0
      by_cases c1 : tkK nb n p = 1
      · cases hA : alL nb (gR P) (tkT nb n p - tkF nb n p) (tkF nb n p) with
        | false =>
          have e : elP nb n P (k + 1) p v = (2, ((tkF nb n p : Nat) : Int), 0) := by rw [elP, if_neg c0, if_neg (not_not_intro c1), if_pos hA]
          rw [e] at K
          refine ⟨?_, ⟨fun q => ?_, fun q => ⟨?_, ⟨fun q => ?_, fun q => ?_⟩⟩⟩⟩
          all_goals first | omega | (exfalso; omega) | exact lp_X9_element_53 hS hn hB hT hH hV h2 c1 (tkT nb n p - tkF nb n p) _ _ (by omega) (Nat.le_refl _) hv (fun _ => K _ _ _ _ _ _ _ rfl rfl) (fun h => absurd (hA.symm.trans h) (by decide))
        | true =>
          have e : elP nb n P (k + 1) p v = elP nb n P k (tkT nb n p) (bhW P nb (tkT nb n p - tkF nb n p) (tkF nb n p) v) := by rw [elP, if_neg c0, if_neg (not_not_intro c1), if_neg (by rw [hA]; decide)]
          rw [e] at K
          have hl : ∀ q, tkF nb n p ≤ q → q < tkT nb n p → nb q - 97 < gR P := fun q a b => alL_lt _ _ hA q a (by omega)
          have hb := bhW_lt (nb := nb) hV (tkT nb n p - tkF nb n p) (tkF nb n p) v hv (fun q a b => hl q a (by omega))
          refine ⟨?_, ⟨fun q => ?_, fun q => ⟨?_, ⟨fun q => ?_, fun q => ?_⟩⟩⟩⟩
          all_goals first | omega | (exfalso; omega) | exact lp_X9_element_53 hS hn hB hT hH hV h2 c1 (tkT nb n p - tkF nb n p) _ _ (by omega) (Nat.le_refl _) hv (fun h => absurd (hA.symm.trans h) (by decide)) (fun _ => ih _ _ (by omega) (by omega) hb K)
      · have e : elP nb n P (k + 1) p v = (1, ((tkF nb n p : Nat) : Int), 0) := by rw [elP, if_neg c0, if_pos c1]
        rw [e] at K
        refine ⟨?_, ⟨fun q => ?_, fun q => ⟨?_, ⟨fun q => ?_, fun q => ?_⟩⟩⟩⟩
        all_goals first | omega | (exfalso; omega) | exact lp_X9_element_t hS hn hB hT hH hV (by omega) (by omega) (K _ _ _ _ _ _ _ rfl rfl)
theorem c_X9_element {G : GG} {j nw nx gn : Nat} {g : Nat → Sh} {c : Nat → Nat → Int} {post : Option AV → AM → Prop} {nb : Nat → Nat} {n : Nat} {ra : Nat} {rb : Nat} {rt : Nat} {rv : Nat} {rz : Bool} {fk : Nat} {fp : Int} {ln : Nat} {bo : Nat → Nat} {P : GD} (hS : c 49 1 = ((n : Nat) : Int)) (hn : n ≤ 300) (hB : ∀ i, nb i < 256) (hT : ∀ i, i < 300 → c 50 i = ((nb i : Nat) : Int)) (hH : ∀ x s, x < gN P → s < gR P → c 54 (5 * x + s) = (gS P x s : Int)) (hV : GV P) (hl1 : ln < 1000) (hl2 : 0 < ln ↔ 0 < gN P) (K0 : gN P = 0 → post (some (vi (-2))) (S nw nx g, 78 + gn, (up2 (rm c ra rb rt rv rz fk fp (gR P) ln bo) 49 1 0))) (K : ¬ gN P = 0 → (∀ (ra rb rt rv fk2 : Nat) (rz : Bool) (fp2 : Int), fk2 = (elP nb n P 300 0 0).1 → fp2 = (elP nb n P 300 0 0).2.1 → post (some (vi (qel (elP nb n P 300 0 0)))) (S nw nx g, 78 + gn, (up2 (rm c ra rb rt rv rz fk2 fp2 (gR P) ln bo) 49 1 0)))) : SM G (j + 5) mX9_element [vr 49] (S nw nx g, 78 + gn, (rm c ra rb rt rv rz fk fp (gR P) ln bo)) 0 0 post := by
  refine sm_of wX9_element rfl (Nat.le_of_ble_eq_true rfl) ?_
  refine g_X9_element_0 hS hn hB hT hH hV ?_
  by_cases h0 : gN P = 0
  · refine ⟨?_, ⟨fun q => ?_, fun q => ?_⟩⟩
    all_goals (try simp only [decide_eq_true_eq, decide_eq_false_iff_not] at *)
    all_goals first | omega | exact K0 h0 | (exfalso; omega)
  · refine ⟨?_, ⟨fun q => ?_, fun q => ?_⟩⟩
    all_goals (try simp only [decide_eq_true_eq, decide_eq_false_iff_not] at *)
    all_goals first | omega | (exfalso; omega) | exact lp_X9_element hS hn hB hT hH hV 300 0 0 (by omega) (Nat.zero_le _) (by omega) (K h0)

