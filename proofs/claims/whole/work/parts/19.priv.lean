def pBt (P : GD) (x y : Nat) : Nat → Bool := fun z => (gD P z).testBit x && (gD P y).testBit z
set_option maxHeartbeats 2000000 in
set_option maxRecDepth 20000 in
theorem g_X8_between_5 {G : GG} {j nw nx gn : Nat} {g : Nat → Sh} {c : Nat → Nat → Int} {post : Option AV → AM → Prop} {x : Nat} {y : Nat} {P : GD} {z : Nat} (hnw : nw = 21 ∨ nw = 35) (hE : EL c nw P) (hV : GV P)  (hv : (z < 2147483648) ∧ (gN P < 2147483648) ∧ (((gN P ≤ z) → post (some (vl (((bitsU (pBt P x y) z : Nat) : Int)))) (S nw nx g, 78 + gn, c)) ∧ ((¬ (gN P ≤ z)) → (x < gN P) ∧ (z < gN P) ∧ (((((gD P z).testBit x) = false) → SW G (j + 2) mX8_between 5 [some (vr (0)), some (vi (((x : Nat) : Int))), some (vi (((y : Nat) : Int))), some (vl (((bitsU (pBt P x y) z : Nat) : Int))), none, some (vi (((z + 1 : Nat) : Int)))] [] (S nw nx g, 78 + gn, c) B0 post) ∧ ((((gD P z).testBit x) = true) → (z < gN P) ∧ (y < gN P) ∧ (((((gD P y).testBit z) = false) → SW G (j + 2) mX8_between 5 [some (vr (0)), some (vi (((x : Nat) : Int))), some (vi (((y : Nat) : Int))), some (vl (((bitsU (pBt P x y) z : Nat) : Int))), none, some (vi (((z + 1 : Nat) : Int)))] [] (S nw nx g, 78 + gn, c) B0 post) ∧ ((((gD P y).testBit z) = true) → (z < 64) ∧ (SW G (j + 2) mX8_between 5 [some (vr (0)), some (vi (((x : Nat) : Int))), some (vi (((y : Nat) : Int))), some (vl ((((bitsU (pBt P x y) z) ||| (1 * 2 ^ z) : Nat) : Int))), none, some (vi (((z + 1 : Nat) : Int)))] [] (S nw nx g, 78 + gn, c) B0 post)))))))) :
    SW G (j + 2) mX8_between 5 [some (vr (0)), some (vi (((x : Nat) : Int))), some (vi (((y : Nat) : Int))), some (vl (((bitsU (pBt P x y) z : Nat) : Int))), none, some (vi (((z : Nat) : Int)))] [] (S nw nx g, 78 + gn, c) B0 post := by
  refine sw_iload (dX8_between.at 4 rfl) rfl ?_
  refine sw_aload_n (dX8_between.at 5 rfl) rfl rfl ?_
  refine sw_getR (dX8_between.at 6 rfl) fp_X8_65 (S_lt 0 (by decide)) (S_0 nw nx g) rfl rfl ?_
  refine sw_getIE (w := ((gN P : Nat) : Int)) (dX8_between.at 7 rfl) fp_X8_103 (S_e_lt hnw) (S_e hnw) rfl (EL_N hE) ?_
  refine sw_icmpN_ge z (gN P) (tgt := 56) (dX8_between.at 8 rfl) (by decide) hv.1 hv.2.1 (fun q => ?_) (fun q => ?_)
  · replace hv := hv.2.2.1 q
    refine sw_lload_n (dX8_between.at 29 rfl) rfl rfl ?_
    exact sw_lret (dX8_between.at 30 rfl) rfl (Nat.le_refl _) (Nat.le_refl _) hv
  · replace hv := hv.2.2.2 q
    refine sw_aload_n (dX8_between.at 9 rfl) rfl rfl ?_
    refine sw_getR (dX8_between.at 10 rfl) fp_X8_65 (S_lt 0 (by decide)) (S_0 nw nx g) rfl rfl ?_
    refine sw_iload_n (dX8_between.at 11 rfl) rfl rfl ?_
    refine sw_iload (dX8_between.at 12 rfl) rfl ?_
    refine sw_callV (B' := B0) (As := [vi (((x : Nat) : Int)), vi (((z : Nat) : Int))]) (mc := 0) (ms := 0) (dX8_between.at 13 rfl) lk_X8_176 (S_e_lt hnw) (S_e hnw) rfl rfl (Nat.le_of_ble_eq_true rfl) rfl (Nat.le_refl _) (Nat.le_refl _) ?_
    refine c_X1_isBelow (e := nw) (v := x) (w := z) (j := j + 0) hnw hE hV hv.1 hv.2.1 ?_
    replace hv := hv.2.2
    refine sw_if_eq (tgt := 50) (dX8_between.at 14 rfl) (by decide) (bz_rng _) (fun q => ?_) (fun q => ?_)
    · replace hv := hv.1 (bz_0 q)
      refine sw_iinc (lo' := [some (vr (0)), some (vi (((x : Nat) : Int))), some (vi (((y : Nat) : Int))), some (vl (((bitsU (pBt P x y) z : Nat) : Int))), none, some (vi (((z + 1 : Nat) : Int)))]) (dX8_between.at 27 rfl) rfl (by decide) rfl ?_
      refine sw_goto (tgt := 5) (dX8_between.at 28 rfl) (by decide) ?_
      exact hv
    · replace hv := hv.2 (bz_n0 q)
      refine sw_aload_n (dX8_between.at 15 rfl) rfl rfl ?_
      refine sw_getR (dX8_between.at 16 rfl) fp_X8_65 (S_lt 0 (by decide)) (S_0 nw nx g) rfl rfl ?_
      refine sw_iload (dX8_between.at 17 rfl) rfl ?_
      refine sw_iload_n (dX8_between.at 18 rfl) rfl rfl ?_
      refine sw_callV (B' := B0) (As := [vi (((z : Nat) : Int)), vi (((y : Nat) : Int))]) (mc := 0) (ms := 0) (dX8_between.at 19 rfl) lk_X8_176 (S_e_lt hnw) (S_e hnw) rfl rfl (Nat.le_of_ble_eq_true rfl) rfl (Nat.le_refl _) (Nat.le_refl _) ?_
      refine c_X1_isBelow (e := nw) (v := z) (w := y) (j := j + 0) hnw hE hV hv.1 hv.2.1 ?_
      replace hv := hv.2.2
      refine sw_if_eq (tgt := 50) (dX8_between.at 20 rfl) (by decide) (bz_rng _) (fun q => ?_) (fun q => ?_)
      · replace hv := hv.1 (bz_0 q)
        refine sw_iinc (lo' := [some (vr (0)), some (vi (((x : Nat) : Int))), some (vi (((y : Nat) : Int))), some (vl (((bitsU (pBt P x y) z : Nat) : Int))), none, some (vi (((z + 1 : Nat) : Int)))]) (dX8_between.at 27 rfl) rfl (by decide) rfl ?_
        refine sw_goto (tgt := 5) (dX8_between.at 28 rfl) (by decide) ?_
        exact hv
      · replace hv := hv.2 (bz_n0 q)
        refine sw_lload_n (dX8_between.at 21 rfl) rfl rfl ?_
        refine sw_lconst (z := 1) (dX8_between.at 22 rfl) (by decide) ?_
        refine sw_iload (dX8_between.at 23 rfl) rfl ?_
        refine sw_lshlN 1 z (dX8_between.at 24 rfl) hv.1 ?_
        replace hv := hv.2
        refine sw_lorN (bitsU (pBt P x y) z) (1 * 2 ^ z) (dX8_between.at 25 rfl) ?_
        refine sw_lstore_n (lo' := [some (vr (0)), some (vi (((x : Nat) : Int))), some (vi (((y : Nat) : Int))), some (vl ((((bitsU (pBt P x y) z) ||| (1 * 2 ^ z) : Nat) : Int))), none, some (vi (((z : Nat) : Int)))]) (dX8_between.at 26 rfl) rfl (by decide) rfl ?_
        refine sw_iinc (lo' := [some (vr (0)), some (vi (((x : Nat) : Int))), some (vi (((y : Nat) : Int))), some (vl ((((bitsU (pBt P x y) z) ||| (1 * 2 ^ z) : Nat) : Int))), none, some (vi (((z + 1 : Nat) : Int)))]) (dX8_between.at 27 rfl) rfl (by decide) rfl ?_
        refine sw_goto (tgt := 5) (dX8_between.at 28 rfl) (by decide) ?_
        exact hv

set_option maxHeartbeats 2000000 in
theorem lp_X8_between_5 {G : GG} {j nw nx gn : Nat} {g : Nat → Sh} {c : Nat → Nat → Int} {post : Option AV → AM → Prop} {P : GD} {x : Nat} {y : Nat} (hnw : nw = 21 ∨ nw = 35) (hE : EL c nw P) (hV : GV P) (hx0 : x < gN P) (hy0 : y < gN P) (K : post (some (vl (((bitsU (pBt P x y) (gN P) : Nat) : Int)))) (S nw nx g, 78 + gn, c)) : ∀ k z : Nat, z + k = gN P → SW G (j + 2) mX8_between 5 [some (vr (0)), some (vi (((x : Nat) : Int))), some (vi (((y : Nat) : Int))), some (vl (((bitsU (pBt P x y) z : Nat) : Int))), none, some (vi (((z : Nat) : Int)))] [] (S nw nx g, 78 + gn, c) B0 post := by
  intro k
  induction k with
  | zero =>
    intro z hx
    refine g_X8_between_5 hnw hE hV ?_
    have := GV_N hV
    have := GV_R hV
    have hx2 : z = gN P := by omega
    subst hx2
    refine ⟨?_, ?_, ⟨fun q => ?_, fun q => ⟨?_, ?_, ⟨fun q => ?_, fun q => ⟨?_, ?_, ⟨fun q => ?_, fun q => ⟨?_, ?_⟩⟩⟩⟩⟩⟩⟩
    all_goals first | exact K | omega | (exfalso; omega)
  | succ k ih =>
    intro z hx
    refine g_X8_between_5 hnw hE hV ?_
    have := GV_N hV
    have := GV_R hV
    have hi := ih (z + 1) (by omega)
    simp only [bitsU, pBt] at hi
    refine ⟨?_, ?_, ⟨fun q => ?_, fun q => ⟨?_, ?_, ⟨fun q => ?_, fun q => ⟨?_, ?_, ⟨fun q => ?_, fun q => ⟨?_, ?_⟩⟩⟩⟩⟩⟩⟩
    all_goals first | omega | (exfalso; omega) | assumption | exact hi | (simp only [*, if_true, if_false, ite_true, ite_false, Bool.false_eq_true, and_true, true_and, and_false, false_and, Bool.and_true, Bool.and_false, Bool.true_and, Bool.false_and, decide_true, decide_false] at hi; exact hi) | (simp only [*, if_true, if_false, ite_true, ite_false, Bool.false_eq_true, and_true, true_and, and_false, false_and, Bool.and_true, Bool.and_false, Bool.true_and, Bool.false_and, decide_true, decide_false] at hi ⊢; exact hi)

set_option maxHeartbeats 2000000 in
set_option maxRecDepth 20000 in
theorem g_X8_between_0 {G : GG} {j nw nx gn : Nat} {g : Nat → Sh} {c : Nat → Nat → Int} {post : Option AV → AM → Prop} {x : Nat} {y : Nat}  (hv : SW G (j + 2) mX8_between 5 [some (vr (0)), some (vi (((x : Nat) : Int))), some (vi (((y : Nat) : Int))), some (vl (0)), none, some (vi (0))] [] (S nw nx g, 78 + gn, c) B0 post) :
    SW G (j + 2) mX8_between 0 [some (vr (0)), some (vi (((x : Nat) : Int))), some (vi (((y : Nat) : Int))), none, none, none] [] (S nw nx g, 78 + gn, c) B0 post := by
  refine sw_lconst (z := 0) (dX8_between.at 0 rfl) (by decide) ?_
  refine sw_lstore_n (lo' := [some (vr (0)), some (vi (((x : Nat) : Int))), some (vi (((y : Nat) : Int))), some (vl (0)), none, none]) (dX8_between.at 1 rfl) rfl (by decide) rfl ?_
  refine sw_iconst (dX8_between.at 2 rfl) ?_
  refine sw_istore (lo' := [some (vr (0)), some (vi (((x : Nat) : Int))), some (vi (((y : Nat) : Int))), some (vl (0)), none, some (vi (0))]) (dX8_between.at 3 rfl) (by decide) rfl ?_
  exact hv

set_option maxHeartbeats 2000000 in
theorem c_X8_between {G : GG} {j nw nx gn : Nat} {g : Nat → Sh} {c : Nat → Nat → Int} {post : Option AV → AM → Prop} {P : GD} {x : Nat} {y : Nat} (hnw : nw = 21 ∨ nw = 35) (hE : EL c nw P) (hV : GV P) (p1 : x < gN P) (p2 : y < gN P) (K : post (some (vl (((bitsU (pBt P x y) (gN P) : Nat) : Int)))) (S nw nx g, 78 + gn, c)) : SM G (j + 3) mX8_between [vr (0), vi (((x : Nat) : Int)), vi (((y : Nat) : Int))] (S nw nx g, 78 + gn, c) 0 0 post := by
  refine sm_of wX8_between rfl (Nat.le_of_ble_eq_true rfl) ?_
  refine g_X8_between_0  ?_
  exact lp_X8_between_5 hnw hE hV p1 p2 K (gN P) 0 (by omega)

def gAb (P : GD) (T : Nat) : Nat → Nat
  | 0 => 0
  | n + 1 => if T.testBit n then gAb P T n ||| gD P n else gAb P T n
def gLo (P : GD) (T : Nat) : Nat → Nat
  | 0 => 0
  | n + 1 => if T.testBit n then gLo P T n ||| andn (gD P n) (1 * 2 ^ n) else gLo P T n
theorem gAb_lt {P : GD} (hV : GV P) {T : Nat} : ∀ n, n ≤ gN P → gAb P T n < 2 ^ 60 := by
  intro n
  induction n with
  | zero => intro _; exact Nat.lt_of_lt_of_le Nat.zero_lt_one (by decide)
  | succ n ih =>
    intro h
    unfold gAb
    have i1 := ih (by omega)
    split
    · exact Nat.or_lt_two_pow i1 (hV.2.2.1 n (by omega)).2.2.2.2.2.2.2.2
    · exact i1
def gTp (P : GD) (T : Nat) : Nat := andn T (gLo P T (gN P))
set_option maxHeartbeats 2000000 in
set_option maxRecDepth 20000 in
theorem g_X8_allBelow_5 {G : GG} {j nw nx gn : Nat} {g : Nat → Sh} {c : Nat → Nat → Int} {post : Option AV → AM → Prop} {T : Nat} {P : GD} {z : Nat} (hnw : nw = 21 ∨ nw = 35) (hE : EL c nw P) (hV : GV P)  (hv : (z < 2147483648) ∧ (gN P < 2147483648) ∧ (((gN P ≤ z) → post (some (vl (((gAb P T z : Nat) : Int)))) (S nw nx g, 78 + gn, c)) ∧ ((¬ (gN P ≤ z)) → (T < 9223372036854775808) ∧ (z < 64) ∧ ((((T.testBit z) = false) → SW G (j + 1) mX8_allBelow 5 [some (vr (0)), some (vl (((T : Nat) : Int))), none, some (vl (((gAb P T z : Nat) : Int))), none, some (vi (((z + 1 : Nat) : Int)))] [] (S nw nx g, 78 + gn, c) B0 post) ∧ (((T.testBit z) = true) → (z < gN P) ∧ (SW G (j + 1) mX8_allBelow 5 [some (vr (0)), some (vl (((T : Nat) : Int))), none, some (vl ((((gAb P T z) ||| (gD P z) : Nat) : Int))), none, some (vi (((z + 1 : Nat) : Int)))] [] (S nw nx g, 78 + gn, c) B0 post)))))) :
    SW G (j + 1) mX8_allBelow 5 [some (vr (0)), some (vl (((T : Nat) : Int))), none, some (vl (((gAb P T z : Nat) : Int))), none, some (vi (((z : Nat) : Int)))] [] (S nw nx g, 78 + gn, c) B0 post := by
  refine sw_iload (dX8_allBelow.at 4 rfl) rfl ?_
  refine sw_aload_n (dX8_allBelow.at 5 rfl) rfl rfl ?_
  refine sw_getR (dX8_allBelow.at 6 rfl) fp_X8_65 (S_lt 0 (by decide)) (S_0 nw nx g) rfl rfl ?_
  refine sw_getIE (w := ((gN P : Nat) : Int)) (dX8_allBelow.at 7 rfl) fp_X8_103 (S_e_lt hnw) (S_e hnw) rfl (EL_N hE) ?_
  refine sw_icmpN_ge z (gN P) (tgt := 45) (dX8_allBelow.at 8 rfl) (by decide) hv.1 hv.2.1 (fun q => ?_) (fun q => ?_)
  · replace hv := hv.2.2.1 q
    refine sw_lload_n (dX8_allBelow.at 23 rfl) rfl rfl ?_
    exact sw_lret (dX8_allBelow.at 24 rfl) rfl (Nat.le_refl _) (Nat.le_refl _) hv
  · replace hv := hv.2.2.2 q
    refine sw_lload_n (dX8_allBelow.at 9 rfl) rfl rfl ?_
    refine sw_iload (dX8_allBelow.at 10 rfl) rfl ?_
    refine sw_callS (post' := post) (B' := B0) (As := [vl (((T : Nat) : Int)), vi (((z : Nat) : Int))]) (mc := 0) (ms := 0) (dX8_allBelow.at 11 rfl) lk_X8_185 rfl rfl (Nat.le_of_ble_eq_true rfl) rfl (Nat.le_refl _) (Nat.le_refl _) ?_
    refine c_X8_hasBit (s := T) (i := z) (j := j + 0) hv.1 hv.2.1 ?_
    replace hv := hv.2.2
    refine sw_if_eq (tgt := 39) (dX8_allBelow.at 12 rfl) (by decide) (bz_rng _) (fun q => ?_) (fun q => ?_)
    · replace hv := hv.1 (bz_0 q)
      refine sw_iinc (lo' := [some (vr (0)), some (vl (((T : Nat) : Int))), none, some (vl (((gAb P T z : Nat) : Int))), none, some (vi (((z + 1 : Nat) : Int)))]) (dX8_allBelow.at 21 rfl) rfl (by decide) rfl ?_
      refine sw_goto (tgt := 5) (dX8_allBelow.at 22 rfl) (by decide) ?_
      exact hv
    · replace hv := hv.2 (bz_n0 q)
      refine sw_lload_n (dX8_allBelow.at 13 rfl) rfl rfl ?_
      refine sw_aload_n (dX8_allBelow.at 14 rfl) rfl rfl ?_
      refine sw_getR (dX8_allBelow.at 15 rfl) fp_X8_65 (S_lt 0 (by decide)) (S_0 nw nx g) rfl rfl ?_
      refine sw_getR (dX8_allBelow.at 16 rfl) fp_X8_333 (S_e_lt hnw) (S_e hnw) rfl rfl ?_
      refine sw_iload (dX8_allBelow.at 17 rfl) rfl ?_
      refine sw_laldN z (w := ((gD P z : Nat) : Int)) (dX8_allBelow.at 18 rfl) (S_ek_lt hnw (by decide)) (S_e_13 hnw) (by decide) (GV_lt hV hv.1) (EL_D hE hv.1) ?_
      replace hv := hv.2
      refine sw_lorN (gAb P T z) (gD P z) (dX8_allBelow.at 19 rfl) ?_
      refine sw_lstore_n (lo' := [some (vr (0)), some (vl (((T : Nat) : Int))), none, some (vl ((((gAb P T z) ||| (gD P z) : Nat) : Int))), none, some (vi (((z : Nat) : Int)))]) (dX8_allBelow.at 20 rfl) rfl (by decide) rfl ?_
      refine sw_iinc (lo' := [some (vr (0)), some (vl (((T : Nat) : Int))), none, some (vl ((((gAb P T z) ||| (gD P z) : Nat) : Int))), none, some (vi (((z + 1 : Nat) : Int)))]) (dX8_allBelow.at 21 rfl) rfl (by decide) rfl ?_
      refine sw_goto (tgt := 5) (dX8_allBelow.at 22 rfl) (by decide) ?_
      exact hv

set_option maxHeartbeats 2000000 in
theorem lp_X8_allBelow_5 {G : GG} {j nw nx gn : Nat} {g : Nat → Sh} {c : Nat → Nat → Int} {post : Option AV → AM → Prop} {P : GD} {T : Nat} (hnw : nw = 21 ∨ nw = 35) (hE : EL c nw P) (hV : GV P) (hT : T < 2 ^ 60) (K : post (some (vl (((gAb P T (gN P) : Nat) : Int)))) (S nw nx g, 78 + gn, c)) : ∀ k z : Nat, z + k = gN P → SW G (j + 1) mX8_allBelow 5 [some (vr (0)), some (vl (((T : Nat) : Int))), none, some (vl (((gAb P T z : Nat) : Int))), none, some (vi (((z : Nat) : Int)))] [] (S nw nx g, 78 + gn, c) B0 post := by
  intro k
  induction k with
  | zero =>
    intro z hx
    refine g_X8_allBelow_5 hnw hE hV ?_
    have := GV_N hV
    have h63 := lt63 hT
    have hx2 : z = gN P := by omega
    subst hx2
    refine ⟨?_, ?_, ⟨fun q => ?_, fun q => ⟨?_, ?_, ⟨fun q => ?_, fun q => ⟨?_, ?_⟩⟩⟩⟩⟩
    all_goals first | exact K | omega | (exfalso; omega)
  | succ k ih =>
    intro z hx
    refine g_X8_allBelow_5 hnw hE hV ?_
    have := GV_N hV
    have h63 := lt63 hT
    have hi := ih (z + 1) (by omega)
    simp only [gAb] at hi
    refine ⟨?_, ?_, ⟨fun q => ?_, fun q => ⟨?_, ?_, ⟨fun q => ?_, fun q => ⟨?_, ?_⟩⟩⟩⟩⟩
    all_goals first | omega | (exfalso; omega) | assumption | exact hi | (simp only [*, if_true, if_false, ite_true, ite_false, Bool.false_eq_true, and_true, true_and, and_false, false_and, Bool.and_true, Bool.and_false, Bool.true_and, Bool.false_and, decide_true, decide_false] at hi; exact hi) | (simp only [*, if_true, if_false, ite_true, ite_false, Bool.false_eq_true, and_true, true_and, and_false, false_and, Bool.and_true, Bool.and_false, Bool.true_and, Bool.false_and, decide_true, decide_false] at hi ⊢; exact hi)

set_option maxHeartbeats 2000000 in
set_option maxRecDepth 20000 in
theorem g_X8_allBelow_0 {G : GG} {j nw nx gn : Nat} {g : Nat → Sh} {c : Nat → Nat → Int} {post : Option AV → AM → Prop} {T : Nat}  (hv : SW G (j + 1) mX8_allBelow 5 [some (vr (0)), some (vl (((T : Nat) : Int))), none, some (vl (0)), none, some (vi (0))] [] (S nw nx g, 78 + gn, c) B0 post) :
    SW G (j + 1) mX8_allBelow 0 [some (vr (0)), some (vl (((T : Nat) : Int))), none, none, none, none] [] (S nw nx g, 78 + gn, c) B0 post := by
  refine sw_lconst (z := 0) (dX8_allBelow.at 0 rfl) (by decide) ?_
  refine sw_lstore_n (lo' := [some (vr (0)), some (vl (((T : Nat) : Int))), none, some (vl (0)), none, none]) (dX8_allBelow.at 1 rfl) rfl (by decide) rfl ?_
  refine sw_iconst (dX8_allBelow.at 2 rfl) ?_
  refine sw_istore (lo' := [some (vr (0)), some (vl (((T : Nat) : Int))), none, some (vl (0)), none, some (vi (0))]) (dX8_allBelow.at 3 rfl) (by decide) rfl ?_
  exact hv

set_option maxHeartbeats 2000000 in
theorem c_X8_allBelow {G : GG} {j nw nx gn : Nat} {g : Nat → Sh} {c : Nat → Nat → Int} {post : Option AV → AM → Prop} {P : GD} {T : Nat} (hnw : nw = 21 ∨ nw = 35) (hE : EL c nw P) (hV : GV P) (p1 : T < 2 ^ 60) (K : post (some (vl (((gAb P T (gN P) : Nat) : Int)))) (S nw nx g, 78 + gn, c)) : SM G (j + 2) mX8_allBelow [vr (0), vl (((T : Nat) : Int))] (S nw nx g, 78 + gn, c) 0 0 post := by
  refine sm_of wX8_allBelow rfl (Nat.le_of_ble_eq_true rfl) ?_
  refine g_X8_allBelow_0  ?_
  exact lp_X8_allBelow_5 hnw hE hV p1 K (gN P) 0 (by omega)

set_option maxHeartbeats 2000000 in
set_option maxRecDepth 20000 in
theorem g_X8_topmost_5 {G : GG} {j nw nx gn : Nat} {g : Nat → Sh} {c : Nat → Nat → Int} {post : Option AV → AM → Prop} {T : Nat} {P : GD} {z : Nat} (hnw : nw = 21 ∨ nw = 35) (hE : EL c nw P) (hV : GV P)  (hv : (z < 2147483648) ∧ (gN P < 2147483648) ∧ (((gN P ≤ z) → post (some (vl (((andn T (gLo P T z) : Nat) : Int)))) (S nw nx g, 78 + gn, c)) ∧ ((¬ (gN P ≤ z)) → (T < 9223372036854775808) ∧ (z < 64) ∧ ((((T.testBit z) = false) → SW G (j + 1) mX8_topmost 5 [some (vr (0)), some (vl (((T : Nat) : Int))), none, some (vl (((gLo P T z : Nat) : Int))), none, some (vi (((z + 1 : Nat) : Int)))] [] (S nw nx g, 78 + gn, c) B0 post) ∧ (((T.testBit z) = true) → (z < gN P) ∧ ((z < 64) ∧ (SW G (j + 1) mX8_topmost 5 [some (vr (0)), some (vl (((T : Nat) : Int))), none, some (vl ((((gLo P T z) ||| (andn (gD P z) (1 * 2 ^ z)) : Nat) : Int))), none, some (vi (((z + 1 : Nat) : Int)))] [] (S nw nx g, 78 + gn, c) B0 post))))))) :
    SW G (j + 1) mX8_topmost 5 [some (vr (0)), some (vl (((T : Nat) : Int))), none, some (vl (((gLo P T z : Nat) : Int))), none, some (vi (((z : Nat) : Int)))] [] (S nw nx g, 78 + gn, c) B0 post := by
  refine sw_iload (dX8_topmost.at 4 rfl) rfl ?_
  refine sw_aload_n (dX8_topmost.at 5 rfl) rfl rfl ?_
  refine sw_getR (dX8_topmost.at 6 rfl) fp_X8_65 (S_lt 0 (by decide)) (S_0 nw nx g) rfl rfl ?_
  refine sw_getIE (w := ((gN P : Nat) : Int)) (dX8_topmost.at 7 rfl) fp_X8_103 (S_e_lt hnw) (S_e hnw) rfl (EL_N hE) ?_
  refine sw_icmpN_ge z (gN P) (tgt := 54) (dX8_topmost.at 8 rfl) (by decide) hv.1 hv.2.1 (fun q => ?_) (fun q => ?_)
  · replace hv := hv.2.2.1 q
    refine sw_lload_n (dX8_topmost.at 29 rfl) rfl rfl ?_
    refine sw_lload_n (dX8_topmost.at 30 rfl) rfl rfl ?_
    refine sw_ldc2 (z := (-1)) (dX8_topmost.at 31 rfl) kc_X8_336 (by decide) ?_
    refine sw_lxor (dX8_topmost.at 32 rfl) ?_
    refine sw_landC T (gLo P T z) (dX8_topmost.at 33 rfl) ?_
    exact sw_lret (dX8_topmost.at 34 rfl) rfl (Nat.le_refl _) (Nat.le_refl _) hv
  · replace hv := hv.2.2.2 q
    refine sw_lload_n (dX8_topmost.at 9 rfl) rfl rfl ?_
    refine sw_iload (dX8_topmost.at 10 rfl) rfl ?_
    refine sw_callS (post' := post) (B' := B0) (As := [vl (((T : Nat) : Int)), vi (((z : Nat) : Int))]) (mc := 0) (ms := 0) (dX8_topmost.at 11 rfl) lk_X8_185 rfl rfl (Nat.le_of_ble_eq_true rfl) rfl (Nat.le_refl _) (Nat.le_refl _) ?_
    refine c_X8_hasBit (s := T) (i := z) (j := j + 0) hv.1 hv.2.1 ?_
    replace hv := hv.2.2
    refine sw_if_eq (tgt := 48) (dX8_topmost.at 12 rfl) (by decide) (bz_rng _) (fun q => ?_) (fun q => ?_)
    · replace hv := hv.1 (bz_0 q)
      refine sw_iinc (lo' := [some (vr (0)), some (vl (((T : Nat) : Int))), none, some (vl (((gLo P T z : Nat) : Int))), none, some (vi (((z + 1 : Nat) : Int)))]) (dX8_topmost.at 27 rfl) rfl (by decide) rfl ?_
      refine sw_goto (tgt := 5) (dX8_topmost.at 28 rfl) (by decide) ?_
      exact hv
    · replace hv := hv.2 (bz_n0 q)
      refine sw_lload_n (dX8_topmost.at 13 rfl) rfl rfl ?_
      refine sw_aload_n (dX8_topmost.at 14 rfl) rfl rfl ?_
      refine sw_getR (dX8_topmost.at 15 rfl) fp_X8_65 (S_lt 0 (by decide)) (S_0 nw nx g) rfl rfl ?_
      refine sw_getR (dX8_topmost.at 16 rfl) fp_X8_333 (S_e_lt hnw) (S_e hnw) rfl rfl ?_
      refine sw_iload (dX8_topmost.at 17 rfl) rfl ?_
      refine sw_laldN z (w := ((gD P z : Nat) : Int)) (dX8_topmost.at 18 rfl) (S_ek_lt hnw (by decide)) (S_e_13 hnw) (by decide) (GV_lt hV hv.1) (EL_D hE hv.1) ?_
      replace hv := hv.2
      refine sw_lconst (z := 1) (dX8_topmost.at 19 rfl) (by decide) ?_
      refine sw_iload (dX8_topmost.at 20 rfl) rfl ?_
      refine sw_lshlN 1 z (dX8_topmost.at 21 rfl) hv.1 ?_
      replace hv := hv.2
      refine sw_ldc2 (z := (-1)) (dX8_topmost.at 22 rfl) kc_X8_336 (by decide) ?_
      refine sw_lxor (dX8_topmost.at 23 rfl) ?_
      refine sw_landC (gD P z) (1 * 2 ^ z) (dX8_topmost.at 24 rfl) ?_
      refine sw_lorN (gLo P T z) (andn (gD P z) (1 * 2 ^ z)) (dX8_topmost.at 25 rfl) ?_
      refine sw_lstore_n (lo' := [some (vr (0)), some (vl (((T : Nat) : Int))), none, some (vl ((((gLo P T z) ||| (andn (gD P z) (1 * 2 ^ z)) : Nat) : Int))), none, some (vi (((z : Nat) : Int)))]) (dX8_topmost.at 26 rfl) rfl (by decide) rfl ?_
      refine sw_iinc (lo' := [some (vr (0)), some (vl (((T : Nat) : Int))), none, some (vl ((((gLo P T z) ||| (andn (gD P z) (1 * 2 ^ z)) : Nat) : Int))), none, some (vi (((z + 1 : Nat) : Int)))]) (dX8_topmost.at 27 rfl) rfl (by decide) rfl ?_
      refine sw_goto (tgt := 5) (dX8_topmost.at 28 rfl) (by decide) ?_
      exact hv

set_option maxHeartbeats 2000000 in
theorem lp_X8_topmost_5 {G : GG} {j nw nx gn : Nat} {g : Nat → Sh} {c : Nat → Nat → Int} {post : Option AV → AM → Prop} {P : GD} {T : Nat} (hnw : nw = 21 ∨ nw = 35) (hE : EL c nw P) (hV : GV P) (hT : T < 2 ^ 60) (K : post (some (vl (((gTp P T : Nat) : Int)))) (S nw nx g, 78 + gn, c)) : ∀ k z : Nat, z + k = gN P → SW G (j + 1) mX8_topmost 5 [some (vr (0)), some (vl (((T : Nat) : Int))), none, some (vl (((gLo P T z : Nat) : Int))), none, some (vi (((z : Nat) : Int)))] [] (S nw nx g, 78 + gn, c) B0 post := by
  intro k
  induction k with
  | zero =>
    intro z hx
    refine g_X8_topmost_5 hnw hE hV ?_
    have := GV_N hV
    have h63 := lt63 hT
    have hx2 : z = gN P := by omega
    subst hx2
    refine ⟨?_, ?_, ⟨fun q => ?_, fun q => ⟨?_, ?_, ⟨fun q => ?_, fun q => ⟨?_, ⟨?_, ?_⟩⟩⟩⟩⟩⟩
    all_goals first | exact K | omega | (exfalso; omega)
  | succ k ih =>
    intro z hx
    refine g_X8_topmost_5 hnw hE hV ?_
    have := GV_N hV
    have h63 := lt63 hT
    have hi := ih (z + 1) (by omega)
    simp only [gLo] at hi
    refine ⟨?_, ?_, ⟨fun q => ?_, fun q => ⟨?_, ?_, ⟨fun q => ?_, fun q => ⟨?_, ⟨?_, ?_⟩⟩⟩⟩⟩⟩
    all_goals first | omega | (exfalso; omega) | assumption | exact hi | (simp only [*, if_true, if_false, ite_true, ite_false, Bool.false_eq_true, and_true, true_and, and_false, false_and, Bool.and_true, Bool.and_false, Bool.true_and, Bool.false_and, decide_true, decide_false] at hi; exact hi) | (simp only [*, if_true, if_false, ite_true, ite_false, Bool.false_eq_true, and_true, true_and, and_false, false_and, Bool.and_true, Bool.and_false, Bool.true_and, Bool.false_and, decide_true, decide_false] at hi ⊢; exact hi)

set_option maxHeartbeats 2000000 in
set_option maxRecDepth 20000 in
theorem g_X8_topmost_0 {G : GG} {j nw nx gn : Nat} {g : Nat → Sh} {c : Nat → Nat → Int} {post : Option AV → AM → Prop} {T : Nat}  (hv : SW G (j + 1) mX8_topmost 5 [some (vr (0)), some (vl (((T : Nat) : Int))), none, some (vl (0)), none, some (vi (0))] [] (S nw nx g, 78 + gn, c) B0 post) :
    SW G (j + 1) mX8_topmost 0 [some (vr (0)), some (vl (((T : Nat) : Int))), none, none, none, none] [] (S nw nx g, 78 + gn, c) B0 post := by
  refine sw_lconst (z := 0) (dX8_topmost.at 0 rfl) (by decide) ?_
  refine sw_lstore_n (lo' := [some (vr (0)), some (vl (((T : Nat) : Int))), none, some (vl (0)), none, none]) (dX8_topmost.at 1 rfl) rfl (by decide) rfl ?_
  refine sw_iconst (dX8_topmost.at 2 rfl) ?_
  refine sw_istore (lo' := [some (vr (0)), some (vl (((T : Nat) : Int))), none, some (vl (0)), none, some (vi (0))]) (dX8_topmost.at 3 rfl) (by decide) rfl ?_
  exact hv

set_option maxHeartbeats 2000000 in
theorem c_X8_topmost {G : GG} {j nw nx gn : Nat} {g : Nat → Sh} {c : Nat → Nat → Int} {post : Option AV → AM → Prop} {P : GD} {T : Nat} (hnw : nw = 21 ∨ nw = 35) (hE : EL c nw P) (hV : GV P) (p1 : T < 2 ^ 60) (K : post (some (vl (((gTp P T : Nat) : Int)))) (S nw nx g, 78 + gn, c)) : SM G (j + 2) mX8_topmost [vr (0), vl (((T : Nat) : Int))] (S nw nx g, 78 + gn, c) 0 0 post := by
  refine sm_of wX8_topmost rfl (Nat.le_of_ble_eq_true rfl) ?_
  refine g_X8_topmost_0  ?_
  exact lp_X8_topmost_5 hnw hE hV p1 K (gN P) 0 (by omega)

def gTu (P : GD) (x : Nat) : Nat → Nat
  | 0 => 0
  | n + 1 => gTu P x n ||| 1 * 2 ^ gX P (gX P (gI P n) x) n
set_option maxHeartbeats 2000000 in
set_option maxRecDepth 20000 in
theorem g_X8_turnedOnes_5 {G : GG} {j nw nx gn : Nat} {g : Nat → Sh} {c : Nat → Nat → Int} {post : Option AV → AM → Prop} {x : Nat} {P : GD} {z : Nat} (hnw : nw = 21 ∨ nw = 35) (hE : EL c nw P) (hV : GV P)  (hv : (z < 2147483648) ∧ (gN P < 2147483648) ∧ (((gN P ≤ z) → post (some (vl (((gTu P x z : Nat) : Int)))) (S nw nx g, 78 + gn, c)) ∧ ((¬ (gN P ≤ z)) → (z < gN P) ∧ (((gI P z) < gN P) ∧ (x < gN P) ∧ (((gX P (gI P z) x) < gN P) ∧ (z < gN P) ∧ ((gX P (gX P (gI P z) x) z < 64) ∧ (SW G (j + 1) mX8_turnedOnes 5 [some (vr (0)), some (vi (((x : Nat) : Int))), some (vl ((((gTu P x z) ||| (1 * 2 ^ (gX P (gX P (gI P z) x) z)) : Nat) : Int))), none, some (vi (((z + 1 : Nat) : Int)))] [] (S nw nx g, 78 + gn, c) B0 post))))))) :
    SW G (j + 1) mX8_turnedOnes 5 [some (vr (0)), some (vi (((x : Nat) : Int))), some (vl (((gTu P x z : Nat) : Int))), none, some (vi (((z : Nat) : Int)))] [] (S nw nx g, 78 + gn, c) B0 post := by
  refine sw_iload (dX8_turnedOnes.at 4 rfl) rfl ?_
  refine sw_aload_n (dX8_turnedOnes.at 5 rfl) rfl rfl ?_
  refine sw_getR (dX8_turnedOnes.at 6 rfl) fp_X8_65 (S_lt 0 (by decide)) (S_0 nw nx g) rfl rfl ?_
  refine sw_getIE (w := ((gN P : Nat) : Int)) (dX8_turnedOnes.at 7 rfl) fp_X8_103 (S_e_lt hnw) (S_e hnw) rfl (EL_N hE) ?_
  refine sw_icmpN_ge z (gN P) (tgt := 55) (dX8_turnedOnes.at 8 rfl) (by decide) hv.1 hv.2.1 (fun q => ?_) (fun q => ?_)
  · replace hv := hv.2.2.1 q
    refine sw_lload_n (dX8_turnedOnes.at 29 rfl) rfl rfl ?_
    exact sw_lret (dX8_turnedOnes.at 30 rfl) rfl (Nat.le_refl _) (Nat.le_refl _) hv
  · replace hv := hv.2.2.2 q
    refine sw_lload_n (dX8_turnedOnes.at 9 rfl) rfl rfl ?_
    refine sw_lconst (z := 1) (dX8_turnedOnes.at 10 rfl) (by decide) ?_
    refine sw_aload_n (dX8_turnedOnes.at 11 rfl) rfl rfl ?_
    refine sw_getR (dX8_turnedOnes.at 12 rfl) fp_X8_65 (S_lt 0 (by decide)) (S_0 nw nx g) rfl rfl ?_
    refine sw_aload_n (dX8_turnedOnes.at 13 rfl) rfl rfl ?_
    refine sw_getR (dX8_turnedOnes.at 14 rfl) fp_X8_65 (S_lt 0 (by decide)) (S_0 nw nx g) rfl rfl ?_
    refine sw_aload_n (dX8_turnedOnes.at 15 rfl) rfl rfl ?_
    refine sw_getR (dX8_turnedOnes.at 16 rfl) fp_X8_65 (S_lt 0 (by decide)) (S_0 nw nx g) rfl rfl ?_
    refine sw_getR (dX8_turnedOnes.at 17 rfl) fp_X8_164 (S_e_lt hnw) (S_e hnw) rfl rfl ?_
    refine sw_iload (dX8_turnedOnes.at 18 rfl) rfl ?_
    refine sw_ialdN z (w := ((gI P z : Nat) : Int)) (dX8_turnedOnes.at 19 rfl) (S_ek_lt hnw (by decide)) (S_e_7 hnw) (by decide) (GV_lt hV hv.1) (EL_I hE hv.1) ?_
    replace hv := hv.2
    refine sw_iload_n (dX8_turnedOnes.at 20 rfl) rfl rfl ?_
    refine sw_callV (B' := B0) (As := [vi (((gI P z : Nat) : Int)), vi (((x : Nat) : Int))]) (mc := 0) (ms := 0) (dX8_turnedOnes.at 21 rfl) lk_X8_161 (S_e_lt hnw) (S_e hnw) rfl rfl (Nat.le_of_ble_eq_true rfl) rfl (Nat.le_refl _) (Nat.le_refl _) ?_
    refine c_X1_mulP (e := nw) (x := (gI P z)) (y := x) (j := j + 0) hnw hE hV hv.1 hv.2.1 ?_
    replace hv := hv.2.2
    refine sw_iload (dX8_turnedOnes.at 22 rfl) rfl ?_
    refine sw_callV (B' := B0) (As := [vi (((gX P (gI P z) x : Nat) : Int)), vi (((z : Nat) : Int))]) (mc := 0) (ms := 0) (dX8_turnedOnes.at 23 rfl) lk_X8_161 (S_e_lt hnw) (S_e hnw) rfl rfl (Nat.le_of_ble_eq_true rfl) rfl (Nat.le_refl _) (Nat.le_refl _) ?_
    refine c_X1_mulP (e := nw) (x := (gX P (gI P z) x)) (y := z) (j := j + 0) hnw hE hV hv.1 hv.2.1 ?_
    replace hv := hv.2.2
    refine sw_lshlN 1 (gX P (gX P (gI P z) x) z) (dX8_turnedOnes.at 24 rfl) hv.1 ?_
    replace hv := hv.2
    refine sw_lorN (gTu P x z) (1 * 2 ^ (gX P (gX P (gI P z) x) z)) (dX8_turnedOnes.at 25 rfl) ?_
    refine sw_lstore_n (lo' := [some (vr (0)), some (vi (((x : Nat) : Int))), some (vl ((((gTu P x z) ||| (1 * 2 ^ (gX P (gX P (gI P z) x) z)) : Nat) : Int))), none, some (vi (((z : Nat) : Int)))]) (dX8_turnedOnes.at 26 rfl) rfl (by decide) rfl ?_
    refine sw_iinc (lo' := [some (vr (0)), some (vi (((x : Nat) : Int))), some (vl ((((gTu P x z) ||| (1 * 2 ^ (gX P (gX P (gI P z) x) z)) : Nat) : Int))), none, some (vi (((z + 1 : Nat) : Int)))]) (dX8_turnedOnes.at 27 rfl) rfl (by decide) rfl ?_
    refine sw_goto (tgt := 5) (dX8_turnedOnes.at 28 rfl) (by decide) ?_
    exact hv

set_option maxHeartbeats 2000000 in
theorem lp_X8_turnedOnes_5 {G : GG} {j nw nx gn : Nat} {g : Nat → Sh} {c : Nat → Nat → Int} {post : Option AV → AM → Prop} {P : GD} {x : Nat} (hnw : nw = 21 ∨ nw = 35) (hE : EL c nw P) (hV : GV P) (hx0 : x < gN P) (K : post (some (vl (((gTu P x (gN P) : Nat) : Int)))) (S nw nx g, 78 + gn, c)) : ∀ k z : Nat, z + k = gN P → SW G (j + 1) mX8_turnedOnes 5 [some (vr (0)), some (vi (((x : Nat) : Int))), some (vl (((gTu P x z : Nat) : Int))), none, some (vi (((z : Nat) : Int)))] [] (S nw nx g, 78 + gn, c) B0 post := by
  intro k
  induction k with
  | zero =>
    intro z hx
    refine g_X8_turnedOnes_5 hnw hE hV ?_
    have := GV_N hV
    have hx2 : z = gN P := by omega
    subst hx2
    refine ⟨?_, ?_, ⟨fun q => ?_, fun q => ⟨?_, ⟨?_, ?_, ⟨?_, ?_, ⟨?_, ?_⟩⟩⟩⟩⟩⟩
    all_goals first | exact K | omega | (exfalso; omega)
  | succ k ih =>
    intro z hx
    refine g_X8_turnedOnes_5 hnw hE hV ?_
    have := GV_N hV
    have hi := ih (z + 1) (by omega)
    simp only [gTu] at hi
    refine ⟨?_, ?_, ⟨fun q => ?_, fun q => ⟨?_, ⟨?_, ?_, ⟨?_, ?_, ⟨?_, ?_⟩⟩⟩⟩⟩⟩
    all_goals first | omega | (exfalso; omega) | assumption | exact hi | exact (hV.2.2.1 z (by omega)).2.2.2.1 | exact hV.2.2.2.2.1 _ _ (hV.2.2.1 z (by omega)).2.2.2.1 hx0 | (have := hV.2.2.2.2.1 _ z (hV.2.2.2.2.1 _ _ (hV.2.2.1 z (by omega)).2.2.2.1 hx0) (by omega); omega) | (simp only [*, if_true, if_false, ite_true, ite_false, Bool.false_eq_true, and_true, true_and, and_false, false_and, Bool.and_true, Bool.and_false, Bool.true_and, Bool.false_and, decide_true, decide_false] at hi; exact hi) | (simp only [*, if_true, if_false, ite_true, ite_false, Bool.false_eq_true, and_true, true_and, and_false, false_and, Bool.and_true, Bool.and_false, Bool.true_and, Bool.false_and, decide_true, decide_false] at hi ⊢; exact hi)

set_option maxHeartbeats 2000000 in
set_option maxRecDepth 20000 in
theorem g_X8_turnedOnes_0 {G : GG} {j nw nx gn : Nat} {g : Nat → Sh} {c : Nat → Nat → Int} {post : Option AV → AM → Prop} {x : Nat}  (hv : SW G (j + 1) mX8_turnedOnes 5 [some (vr (0)), some (vi (((x : Nat) : Int))), some (vl (0)), none, some (vi (0))] [] (S nw nx g, 78 + gn, c) B0 post) :
    SW G (j + 1) mX8_turnedOnes 0 [some (vr (0)), some (vi (((x : Nat) : Int))), none, none, none] [] (S nw nx g, 78 + gn, c) B0 post := by
  refine sw_lconst (z := 0) (dX8_turnedOnes.at 0 rfl) (by decide) ?_
  refine sw_lstore_n (lo' := [some (vr (0)), some (vi (((x : Nat) : Int))), some (vl (0)), none, none]) (dX8_turnedOnes.at 1 rfl) rfl (by decide) rfl ?_
  refine sw_iconst (dX8_turnedOnes.at 2 rfl) ?_
  refine sw_istore (lo' := [some (vr (0)), some (vi (((x : Nat) : Int))), some (vl (0)), none, some (vi (0))]) (dX8_turnedOnes.at 3 rfl) (by decide) rfl ?_
  exact hv

set_option maxHeartbeats 2000000 in
theorem c_X8_turnedOnes {G : GG} {j nw nx gn : Nat} {g : Nat → Sh} {c : Nat → Nat → Int} {post : Option AV → AM → Prop} {P : GD} {x : Nat} (hnw : nw = 21 ∨ nw = 35) (hE : EL c nw P) (hV : GV P) (p1 : x < gN P) (K : post (some (vl (((gTu P x (gN P) : Nat) : Int)))) (S nw nx g, 78 + gn, c)) : SM G (j + 2) mX8_turnedOnes [vr (0), vi (((x : Nat) : Int))] (S nw nx g, 78 + gn, c) 0 0 post := by
  refine sm_of wX8_turnedOnes rfl (Nat.le_of_ble_eq_true rfl) ?_
  refine g_X8_turnedOnes_0  ?_
  exact lp_X8_turnedOnes_5 hnw hE hV p1 K (gN P) 0 (by omega)

def q_interval (P : GD) (x y : Int) : Int := if (0 ≤ x ∧ x < (gN P : Int)) ∧ 0 ≤ y ∧ y < (gN P : Int) then ((bitsU (pBt P x.toNat y.toNat) (gN P) : Nat) : Int) else (-2)
set_option maxHeartbeats 2000000 in
set_option maxRecDepth 20000 in
theorem g_X8_interval_0n {G : GG} {j nw nx gn : Nat} {g : Nat → Sh} {c : Nat → Nat → Int} {post : Option AV → AM → Prop} {x : Nat} {y : Nat} {P : GD} (hnw : nw = 21 ∨ nw = 35) (hE : EL c nw P) (hV : GV P)  (hv : (-2147483648 ≤ ((x : Nat) : Int) ∧ ((x : Nat) : Int) < 2147483648) ∧ (-2147483648 ≤ ((y : Nat) : Int) ∧ ((y : Nat) : Int) < 2147483648) ∧ ((((decide ((0 ≤ ((x : Nat) : Int) ∧ ((x : Nat) : Int) < (gN P : Int)) ∧ 0 ≤ ((y : Nat) : Int) ∧ ((y : Nat) : Int) < (gN P : Int))) = false) → post (some (vl ((-2)))) (S nw nx g, 78 + gn, c)) ∧ (((decide ((0 ≤ ((x : Nat) : Int) ∧ ((x : Nat) : Int) < (gN P : Int)) ∧ 0 ≤ ((y : Nat) : Int) ∧ ((y : Nat) : Int) < (gN P : Int))) = true) → (x < gN P) ∧ (y < gN P) ∧ (post (some (vl (((bitsU (pBt P x y) (gN P) : Nat) : Int)))) (S nw nx g, 78 + gn, c))))) :
    SW G (j + 3) mX8_interval 0 [some (vr (0)), some (vi (((x : Nat) : Int))), some (vi (((y : Nat) : Int)))] [] (S nw nx g, 78 + gn, c) B0 post := by
  refine sw_aload_n (dX8_interval.at 0 rfl) rfl rfl ?_
  refine sw_iload_n (dX8_interval.at 1 rfl) rfl rfl ?_
  refine sw_iload_n (dX8_interval.at 2 rfl) rfl rfl ?_
  refine sw_callV (B' := B0) (As := [vi (((x : Nat) : Int)), vi (((y : Nat) : Int))]) (mc := 0) (ms := 0) (dX8_interval.at 3 rfl) lk_X8_157 (S_lt 0 (by decide)) (S_0 nw nx g) rfl rfl (Nat.le_of_ble_eq_true rfl) rfl (Nat.le_refl _) (Nat.le_refl _) ?_
  refine c_X8_arePair (x := ((x : Nat) : Int)) (y := ((y : Nat) : Int)) (j := j + 1) hnw hE hV hv.1 hv.2.1 ?_
  replace hv := hv.2.2
  refine sw_if_eq (tgt := 18) (dX8_interval.at 4 rfl) (by decide) (bz_rng _) (fun q => ?_) (fun q => ?_)
  · replace hv := hv.1 (bz_0 q)
    refine sw_ldc2 (z := (-2)) (dX8_interval.at 10 rfl) kc_X8_147 (by decide) ?_
    exact sw_lret (dX8_interval.at 11 rfl) rfl (Nat.le_refl _) (Nat.le_refl _) hv
  · replace hv := hv.2 (bz_n0 q)
    refine sw_aload_n (dX8_interval.at 5 rfl) rfl rfl ?_
    refine sw_iload_n (dX8_interval.at 6 rfl) rfl rfl ?_
    refine sw_iload_n (dX8_interval.at 7 rfl) rfl rfl ?_
    refine sw_callV (B' := B0) (As := [vi (((x : Nat) : Int)), vi (((y : Nat) : Int))]) (mc := 0) (ms := 0) (dX8_interval.at 8 rfl) lk_X8_182 (S_lt 0 (by decide)) (S_0 nw nx g) rfl rfl (Nat.le_of_ble_eq_true rfl) rfl (Nat.le_refl _) (Nat.le_refl _) ?_
    refine c_X8_between (x := x) (y := y) (j := j + 0) hnw hE hV hv.1 hv.2.1 ?_
    replace hv := hv.2.2
    refine sw_goto (tgt := 21) (dX8_interval.at 9 rfl) (by decide) ?_
    exact sw_lret (dX8_interval.at 11 rfl) rfl (Nat.le_refl _) (Nat.le_refl _) hv

set_option maxHeartbeats 2000000 in
set_option maxRecDepth 20000 in
theorem g_X8_interval_0 {G : GG} {j nw nx gn : Nat} {g : Nat → Sh} {c : Nat → Nat → Int} {post : Option AV → AM → Prop} {x : Int} {y : Int} {P : GD} (hnw : nw = 21 ∨ nw = 35) (hE : EL c nw P) (hV : GV P)  (hv : (-2147483648 ≤ x ∧ x < 2147483648) ∧ (-2147483648 ≤ y ∧ y < 2147483648) ∧ ((((decide ((0 ≤ x ∧ x < (gN P : Int)) ∧ 0 ≤ y ∧ y < (gN P : Int))) = false) → post (some (vl ((-2)))) (S nw nx g, 78 + gn, c)) ∧ (((decide ((0 ≤ x ∧ x < (gN P : Int)) ∧ 0 ≤ y ∧ y < (gN P : Int))) = true) → SW G (j + 3) mX8_interval 12 [some (vr (0)), some (vi (x)), some (vi (y))] [vi (y), vi (x), vr (0)] (S nw nx g, 78 + gn, c) B0 post))) :
    SW G (j + 3) mX8_interval 0 [some (vr (0)), some (vi (x)), some (vi (y))] [] (S nw nx g, 78 + gn, c) B0 post := by
  refine sw_aload_n (dX8_interval.at 0 rfl) rfl rfl ?_
  refine sw_iload_n (dX8_interval.at 1 rfl) rfl rfl ?_
  refine sw_iload_n (dX8_interval.at 2 rfl) rfl rfl ?_
  refine sw_callV (B' := B0) (As := [vi (x), vi (y)]) (mc := 0) (ms := 0) (dX8_interval.at 3 rfl) lk_X8_157 (S_lt 0 (by decide)) (S_0 nw nx g) rfl rfl (Nat.le_of_ble_eq_true rfl) rfl (Nat.le_refl _) (Nat.le_refl _) ?_
  refine c_X8_arePair (x := x) (y := y) (j := j + 1) hnw hE hV hv.1 hv.2.1 ?_
  replace hv := hv.2.2
  refine sw_if_eq (tgt := 18) (dX8_interval.at 4 rfl) (by decide) (bz_rng _) (fun q => ?_) (fun q => ?_)
  · replace hv := hv.1 (bz_0 q)
    refine sw_ldc2 (z := (-2)) (dX8_interval.at 10 rfl) kc_X8_147 (by decide) ?_
    exact sw_lret (dX8_interval.at 11 rfl) rfl (Nat.le_refl _) (Nat.le_refl _) hv
  · replace hv := hv.2 (bz_n0 q)
    refine sw_aload_n (dX8_interval.at 5 rfl) rfl rfl ?_
    refine sw_iload_n (dX8_interval.at 6 rfl) rfl rfl ?_
    refine sw_iload_n (dX8_interval.at 7 rfl) rfl rfl ?_
    exact hv

set_option maxHeartbeats 4000000 in
theorem c_X8_interval {G : GG} {j nw nx gn : Nat} {g : Nat → Sh} {c : Nat → Nat → Int} {post : Option AV → AM → Prop} {P : GD} {x y : Int} (hnw : nw = 21 ∨ nw = 35) (hE : EL c nw P) (hV : GV P) (p1 : -2147483648 ≤ x ∧ x < 2147483648) (p2 : -2147483648 ≤ y ∧ y < 2147483648) (K : post (some (vl (q_interval P x y))) (S nw nx g, 78 + gn, c)) : SM G (j + 4) mX8_interval [vr (0), vi (x), vi (y)] (S nw nx g, 78 + gn, c) 0 0 post := by
  refine sm_of wX8_interval rfl (Nat.le_of_ble_eq_true rfl) ?_
  have hN60 := GV_N hV
  have hR5 := GV_R hV
  by_cases hv : (0 ≤ x ∧ x < (gN P : Int)) ∧ 0 ≤ y ∧ y < (gN P : Int)
  · obtain ⟨x, rfl⟩ : ∃ n : Nat, x = (n : Int) := ⟨x.toNat, by omega⟩
    obtain ⟨y, rfl⟩ : ∃ n : Nat, y = (n : Int) := ⟨y.toNat, by omega⟩
    have e : q_interval P ((x : Nat) : Int) ((y : Nat) : Int) = ((bitsU (pBt P x y) (gN P) : Nat) : Int) := by
      rw [q_interval, if_pos hv]
      simp only [Int.toNat_natCast]
    rw [e] at K
    have K1 : ∀ z : Int, z = (((bitsU (pBt P x y) (gN P) : Nat) : Int)) → post (some (vl z)) (S nw nx g, 78 + gn, c) := fun z h => h ▸ K
    have hx : x < gN P := by omega
    have fx := hV.2.2.1 x hx
    have hy : y < gN P := by omega
    have fy := hV.2.2.1 y hy
    refine g_X8_interval_0n hnw hE hV ?_
    refine ⟨?_, ?_, ⟨fun q => ?_, fun q => ⟨?_, ?_, ?_⟩⟩⟩
    all_goals first | exact K | omega | assumption | (exfalso; simp only [decide_eq_true_eq, decide_eq_false_iff_not] at *; omega) | (refine K1 _ ?_; first | (split <;> first | rfl | omega) | (simp [bz, *]; done))
  · have e : q_interval P x y = (-2) := by rw [q_interval, if_neg hv]
    rw [e] at K
    refine g_X8_interval_0 hnw hE hV ?_
    refine ⟨?_, ?_, ⟨fun q => ?_, fun q => ?_⟩⟩
    all_goals first | exact K | omega | assumption | (exfalso; simp only [decide_eq_true_eq, decide_eq_false_iff_not] at *; omega)

def pLr (P : GD) (x y n0 : Nat) : Nat → Bool := fun z => (bitsU (pBt P x y) (gN P)).testBit z && decide ((gL P z : Int) - (gL P x : Int) = (n0 : Int))
set_option maxHeartbeats 2000000 in
set_option maxRecDepth 20000 in
theorem g_X8_layer_30 {G : GG} {j nw nx gn : Nat} {g : Nat → Sh} {c : Nat → Nat → Int} {post : Option AV → AM → Prop} {x : Nat} {y : Nat} {n0 : Nat} {P : GD} {z : Nat} (hnw : nw = 21 ∨ nw = 35) (hE : EL c nw P) (hV : GV P)  (hv : (z < 2147483648) ∧ (gN P < 2147483648) ∧ (((gN P ≤ z) → post (some (vi (((cntU (pLr P x y n0) z : Nat) : Int)))) (S nw nx g, 78 + gn, c)) ∧ ((¬ (gN P ≤ z)) → ((bitsU (pBt P x y) (gN P)) < 9223372036854775808) ∧ (z < 64) ∧ (((((bitsU (pBt P x y) (gN P)).testBit z) = false) → SW G (j + 3) mX8_layer 30 [some (vr (0)), some (vi (((x : Nat) : Int))), some (vi (((y : Nat) : Int))), some (vi (((n0 : Nat) : Int))), some (vl (((bitsU (pBt P x y) (gN P) : Nat) : Int))), none, some (vi (((cntU (pLr P x y n0) z : Nat) : Int))), some (vi (((z + 1 : Nat) : Int)))] [] (S nw nx g, 78 + gn, c) B0 post) ∧ ((((bitsU (pBt P x y) (gN P)).testBit z) = true) → (z < gN P) ∧ ((x < gN P) ∧ ((-2147483648 ≤ ((gL P z : Nat) : Int) - ((gL P x : Nat) : Int) ∧ ((gL P z : Nat) : Int) - ((gL P x : Nat) : Int) < 2147483648) ∧ (n0 < 2147483648) ∧ (((((gL P z : Nat) : Int) - ((gL P x : Nat) : Int) ≠ ((n0 : Nat) : Int)) → SW G (j + 3) mX8_layer 30 [some (vr (0)), some (vi (((x : Nat) : Int))), some (vi (((y : Nat) : Int))), some (vi (((n0 : Nat) : Int))), some (vl (((bitsU (pBt P x y) (gN P) : Nat) : Int))), none, some (vi (((cntU (pLr P x y n0) z : Nat) : Int))), some (vi (((z + 1 : Nat) : Int)))] [] (S nw nx g, 78 + gn, c) B0 post) ∧ ((((gL P z : Nat) : Int) - ((gL P x : Nat) : Int) = ((n0 : Nat) : Int)) → SW G (j + 3) mX8_layer 30 [some (vr (0)), some (vi (((x : Nat) : Int))), some (vi (((y : Nat) : Int))), some (vi (((n0 : Nat) : Int))), some (vl (((bitsU (pBt P x y) (gN P) : Nat) : Int))), none, some (vi ((((cntU (pLr P x y n0) z) + 1 : Nat) : Int))), some (vi (((z + 1 : Nat) : Int)))] [] (S nw nx g, 78 + gn, c) B0 post))))))))) :
    SW G (j + 3) mX8_layer 30 [some (vr (0)), some (vi (((x : Nat) : Int))), some (vi (((y : Nat) : Int))), some (vi (((n0 : Nat) : Int))), some (vl (((bitsU (pBt P x y) (gN P) : Nat) : Int))), none, some (vi (((cntU (pLr P x y n0) z : Nat) : Int))), some (vi (((z : Nat) : Int)))] [] (S nw nx g, 78 + gn, c) B0 post := by
  refine sw_iload (dX8_layer.at 18 rfl) rfl ?_
  refine sw_aload_n (dX8_layer.at 19 rfl) rfl rfl ?_
  refine sw_getR (dX8_layer.at 20 rfl) fp_X8_65 (S_lt 0 (by decide)) (S_0 nw nx g) rfl rfl ?_
  refine sw_getIE (w := ((gN P : Nat) : Int)) (dX8_layer.at 21 rfl) fp_X8_103 (S_e_lt hnw) (S_e hnw) rfl (EL_N hE) ?_
  refine sw_icmpN_ge z (gN P) (tgt := 85) (dX8_layer.at 22 rfl) (by decide) hv.1 hv.2.1 (fun q => ?_) (fun q => ?_)
  · replace hv := hv.2.2.1 q
    refine sw_iload (dX8_layer.at 43 rfl) rfl ?_
    exact sw_iret (dX8_layer.at 44 rfl) rfl (Nat.le_refl _) (Nat.le_refl _) hv
  · replace hv := hv.2.2.2 q
    refine sw_lload (dX8_layer.at 23 rfl) rfl ?_
    refine sw_iload (dX8_layer.at 24 rfl) rfl ?_
    refine sw_callS (post' := post) (B' := B0) (As := [vl (((bitsU (pBt P x y) (gN P) : Nat) : Int)), vi (((z : Nat) : Int))]) (mc := 0) (ms := 0) (dX8_layer.at 25 rfl) lk_X8_185 rfl rfl (Nat.le_of_ble_eq_true rfl) rfl (Nat.le_refl _) (Nat.le_refl _) ?_
    refine c_X8_hasBit (s := (bitsU (pBt P x y) (gN P))) (i := z) (j := j + 2) hv.1 hv.2.1 ?_
    replace hv := hv.2.2
    refine sw_if_eq (tgt := 79) (dX8_layer.at 26 rfl) (by decide) (bz_rng _) (fun q => ?_) (fun q => ?_)
    · replace hv := hv.1 (bz_0 q)
      refine sw_iinc (lo' := [some (vr (0)), some (vi (((x : Nat) : Int))), some (vi (((y : Nat) : Int))), some (vi (((n0 : Nat) : Int))), some (vl (((bitsU (pBt P x y) (gN P) : Nat) : Int))), none, some (vi (((cntU (pLr P x y n0) z : Nat) : Int))), some (vi (((z + 1 : Nat) : Int)))]) (dX8_layer.at 41 rfl) rfl (by decide) rfl ?_
      refine sw_goto (tgt := 30) (dX8_layer.at 42 rfl) (by decide) ?_
      exact hv
    · replace hv := hv.2 (bz_n0 q)
      refine sw_aload_n (dX8_layer.at 27 rfl) rfl rfl ?_
      refine sw_getR (dX8_layer.at 28 rfl) fp_X8_65 (S_lt 0 (by decide)) (S_0 nw nx g) rfl rfl ?_
      refine sw_getR (dX8_layer.at 29 rfl) fp_X8_133 (S_e_lt hnw) (S_e hnw) rfl rfl ?_
      refine sw_iload (dX8_layer.at 30 rfl) rfl ?_
      refine sw_ialdN z (w := ((gL P z : Nat) : Int)) (dX8_layer.at 31 rfl) (S_ek_lt hnw (by decide)) (S_e_2 hnw) (by decide) (GV_lt hV hv.1) (EL_L hE hv.1) ?_
      replace hv := hv.2
      refine sw_aload_n (dX8_layer.at 32 rfl) rfl rfl ?_
      refine sw_getR (dX8_layer.at 33 rfl) fp_X8_65 (S_lt 0 (by decide)) (S_0 nw nx g) rfl rfl ?_
      refine sw_getR (dX8_layer.at 34 rfl) fp_X8_133 (S_e_lt hnw) (S_e hnw) rfl rfl ?_
      refine sw_iload_n (dX8_layer.at 35 rfl) rfl rfl ?_
      refine sw_ialdN x (w := ((gL P x : Nat) : Int)) (dX8_layer.at 36 rfl) (S_ek_lt hnw (by decide)) (S_e_2 hnw) (by decide) (GV_lt hV hv.1) (EL_L hE hv.1) ?_
      replace hv := hv.2
      refine sw_isub (dX8_layer.at 37 rfl) ?_
      refine sw_iload_n (dX8_layer.at 38 rfl) rfl rfl ?_
      refine sw_icmp_ne (tgt := 79) (dX8_layer.at 39 rfl) (by decide) hv.1 (nrng hv.2.1) (fun q => ?_) (fun q => ?_)
      · replace hv := hv.2.2.1 q
        refine sw_iinc (lo' := [some (vr (0)), some (vi (((x : Nat) : Int))), some (vi (((y : Nat) : Int))), some (vi (((n0 : Nat) : Int))), some (vl (((bitsU (pBt P x y) (gN P) : Nat) : Int))), none, some (vi (((cntU (pLr P x y n0) z : Nat) : Int))), some (vi (((z + 1 : Nat) : Int)))]) (dX8_layer.at 41 rfl) rfl (by decide) rfl ?_
        refine sw_goto (tgt := 30) (dX8_layer.at 42 rfl) (by decide) ?_
        exact hv
      · replace hv := hv.2.2.2 q
        refine sw_iinc (lo' := [some (vr (0)), some (vi (((x : Nat) : Int))), some (vi (((y : Nat) : Int))), some (vi (((n0 : Nat) : Int))), some (vl (((bitsU (pBt P x y) (gN P) : Nat) : Int))), none, some (vi ((((cntU (pLr P x y n0) z) + 1 : Nat) : Int))), some (vi (((z : Nat) : Int)))]) (dX8_layer.at 40 rfl) rfl (by decide) rfl ?_
        refine sw_iinc (lo' := [some (vr (0)), some (vi (((x : Nat) : Int))), some (vi (((y : Nat) : Int))), some (vi (((n0 : Nat) : Int))), some (vl (((bitsU (pBt P x y) (gN P) : Nat) : Int))), none, some (vi ((((cntU (pLr P x y n0) z) + 1 : Nat) : Int))), some (vi (((z + 1 : Nat) : Int)))]) (dX8_layer.at 41 rfl) rfl (by decide) rfl ?_
        refine sw_goto (tgt := 30) (dX8_layer.at 42 rfl) (by decide) ?_
        exact hv

set_option maxHeartbeats 2000000 in
theorem lp_X8_layer_30 {G : GG} {j nw nx gn : Nat} {g : Nat → Sh} {c : Nat → Nat → Int} {post : Option AV → AM → Prop} {P : GD} {x : Nat} {y : Nat} {n0 : Nat} (hnw : nw = 21 ∨ nw = 35) (hE : EL c nw P) (hV : GV P) (hx0 : x < gN P) (hy0 : y < gN P) (hn0 : n0 < 2147483648) (K : post (some (vi (((cntU (pLr P x y n0) (gN P) : Nat) : Int)))) (S nw nx g, 78 + gn, c)) : ∀ k z : Nat, z + k = gN P → SW G (j + 3) mX8_layer 30 [some (vr (0)), some (vi (((x : Nat) : Int))), some (vi (((y : Nat) : Int))), some (vi (((n0 : Nat) : Int))), some (vl (((bitsU (pBt P x y) (gN P) : Nat) : Int))), none, some (vi (((cntU (pLr P x y n0) z : Nat) : Int))), some (vi (((z : Nat) : Int)))] [] (S nw nx g, 78 + gn, c) B0 post := by
  intro k
  induction k with
  | zero =>
    intro z hx
    refine g_X8_layer_30 hnw hE hV ?_
    have h60 := GV_N hV
    have h63 := lt63 (bitsU_63 (p := pBt P x y) h60)
    have fx := (hV.2.2.1 x hx0).1
    have hx2 : z = gN P := by omega
    subst hx2
    refine ⟨?_, ?_, ⟨fun q => ?_, fun q => ⟨?_, ?_, ⟨fun q => ?_, fun q => ⟨?_, ⟨?_, ⟨?_, ?_, ⟨fun q => ?_, fun q => ?_⟩⟩⟩⟩⟩⟩⟩⟩
    all_goals first | exact K | omega | (exfalso; omega)
  | succ k ih =>
    intro z hx
    refine g_X8_layer_30 hnw hE hV ?_
    have h60 := GV_N hV
    have h63 := lt63 (bitsU_63 (p := pBt P x y) h60)
    have fx := (hV.2.2.1 x hx0).1
    have hi := ih (z + 1) (by omega)
    simp only [cntU, pLr] at hi
    refine ⟨?_, ?_, ⟨fun q => ?_, fun q => ⟨?_, ?_, ⟨fun q => ?_, fun q => ⟨?_, ⟨?_, ⟨?_, ?_, ⟨fun q => ?_, fun q => ?_⟩⟩⟩⟩⟩⟩⟩⟩
    all_goals first | omega | (exfalso; omega) | assumption | exact hi | (have := (hV.2.2.1 z (by omega)).1; omega) | (simp only [*, Bool.true_and, Bool.false_and, Bool.false_eq_true, if_false, decide_true, decide_false, if_true, eq_self] at hi; exact hi) | (simp only [*, if_true, if_false, ite_true, ite_false, Bool.false_eq_true, and_true, true_and, and_false, false_and, Bool.and_true, Bool.and_false, Bool.true_and, Bool.false_and, decide_true, decide_false] at hi; exact hi) | (simp only [*, if_true, if_false, ite_true, ite_false, Bool.false_eq_true, and_true, true_and, and_false, false_and, Bool.and_true, Bool.and_false, Bool.true_and, Bool.false_and, decide_true, decide_false] at hi ⊢; exact hi)

def q_layer (P : GD) (x y n0 : Int) : Int := if ((0 ≤ x ∧ x < (gN P : Int)) ∧ 0 ≤ y ∧ y < (gN P : Int)) ∧ 0 ≤ n0 then ((cntU (pLr P x.toNat y.toNat n0.toNat) (gN P) : Nat) : Int) else (-2)
set_option maxHeartbeats 2000000 in
set_option maxRecDepth 20000 in
theorem g_X8_layer_0n {G : GG} {j nw nx gn : Nat} {g : Nat → Sh} {c : Nat → Nat → Int} {post : Option AV → AM → Prop} {x : Nat} {y : Nat} {n0 : Nat} {P : GD} (hnw : nw = 21 ∨ nw = 35) (hE : EL c nw P) (hV : GV P)  (hv : (-2147483648 ≤ ((x : Nat) : Int) ∧ ((x : Nat) : Int) < 2147483648) ∧ (-2147483648 ≤ ((y : Nat) : Int) ∧ ((y : Nat) : Int) < 2147483648) ∧ ((((decide ((0 ≤ ((x : Nat) : Int) ∧ ((x : Nat) : Int) < (gN P : Int)) ∧ 0 ≤ ((y : Nat) : Int) ∧ ((y : Nat) : Int) < (gN P : Int))) = false) → post (some (vi ((-2)))) (S nw nx g, 78 + gn, c)) ∧ (((decide ((0 ≤ ((x : Nat) : Int) ∧ ((x : Nat) : Int) < (gN P : Int)) ∧ 0 ≤ ((y : Nat) : Int) ∧ ((y : Nat) : Int) < (gN P : Int))) = true) → (n0 < 2147483648) ∧ (((0 ≤ ((n0 : Nat) : Int)) → (x < gN P) ∧ (y < gN P) ∧ (SW G (j + 3) mX8_layer 30 [some (vr (0)), some (vi (((x : Nat) : Int))), some (vi (((y : Nat) : Int))), some (vi (((n0 : Nat) : Int))), some (vl (((bitsU (pBt P x y) (gN P) : Nat) : Int))), none, some (vi (0)), some (vi (0))] [] (S nw nx g, 78 + gn, c) B0 post)) ∧ ((¬ (0 ≤ ((n0 : Nat) : Int))) → post (some (vi ((-2)))) (S nw nx g, 78 + gn, c)))))) :
    SW G (j + 3) mX8_layer 0 [some (vr (0)), some (vi (((x : Nat) : Int))), some (vi (((y : Nat) : Int))), some (vi (((n0 : Nat) : Int))), none, none, none, none] [] (S nw nx g, 78 + gn, c) B0 post := by
  refine sw_aload_n (dX8_layer.at 0 rfl) rfl rfl ?_
  refine sw_iload_n (dX8_layer.at 1 rfl) rfl rfl ?_
  refine sw_iload_n (dX8_layer.at 2 rfl) rfl rfl ?_
  refine sw_callV (B' := B0) (As := [vi (((x : Nat) : Int)), vi (((y : Nat) : Int))]) (mc := 0) (ms := 0) (dX8_layer.at 3 rfl) lk_X8_157 (S_lt 0 (by decide)) (S_0 nw nx g) rfl rfl (Nat.le_of_ble_eq_true rfl) rfl (Nat.le_refl _) (Nat.le_refl _) ?_
  refine c_X8_arePair (x := ((x : Nat) : Int)) (y := ((y : Nat) : Int)) (j := j + 1) hnw hE hV hv.1 hv.2.1 ?_
  replace hv := hv.2.2
  refine sw_if_eq (tgt := 13) (dX8_layer.at 4 rfl) (by decide) (bz_rng _) (fun q => ?_) (fun q => ?_)
  · replace hv := hv.1 (bz_0 q)
    refine sw_bipush (dX8_layer.at 7 rfl) (by decide) ?_
    exact sw_iret (dX8_layer.at 8 rfl) rfl (Nat.le_refl _) (Nat.le_refl _) hv
  · replace hv := hv.2 (bz_n0 q)
    refine sw_iload_n (dX8_layer.at 5 rfl) rfl rfl ?_
    refine sw_if_ge (tgt := 16) (dX8_layer.at 6 rfl) (by decide) (nrng hv.1) (fun q => ?_) (fun q => ?_)
    · replace hv := hv.2.1 q
      refine sw_aload_n (dX8_layer.at 9 rfl) rfl rfl ?_
      refine sw_iload_n (dX8_layer.at 10 rfl) rfl rfl ?_
      refine sw_iload_n (dX8_layer.at 11 rfl) rfl rfl ?_
      refine sw_callV (B' := B0) (As := [vi (((x : Nat) : Int)), vi (((y : Nat) : Int))]) (mc := 0) (ms := 0) (dX8_layer.at 12 rfl) lk_X8_182 (S_lt 0 (by decide)) (S_0 nw nx g) rfl rfl (Nat.le_of_ble_eq_true rfl) rfl (Nat.le_refl _) (Nat.le_refl _) ?_
      refine c_X8_between (x := x) (y := y) (j := j + 0) hnw hE hV hv.1 hv.2.1 ?_
      replace hv := hv.2.2
      refine sw_lstore (lo' := [some (vr (0)), some (vi (((x : Nat) : Int))), some (vi (((y : Nat) : Int))), some (vi (((n0 : Nat) : Int))), some (vl (((bitsU (pBt P x y) (gN P) : Nat) : Int))), none, none, none]) (dX8_layer.at 13 rfl) (by decide) rfl ?_
      refine sw_iconst (dX8_layer.at 14 rfl) ?_
      refine sw_istore (lo' := [some (vr (0)), some (vi (((x : Nat) : Int))), some (vi (((y : Nat) : Int))), some (vi (((n0 : Nat) : Int))), some (vl (((bitsU (pBt P x y) (gN P) : Nat) : Int))), none, some (vi (0)), none]) (dX8_layer.at 15 rfl) (by decide) rfl ?_
      refine sw_iconst (dX8_layer.at 16 rfl) ?_
      refine sw_istore (lo' := [some (vr (0)), some (vi (((x : Nat) : Int))), some (vi (((y : Nat) : Int))), some (vi (((n0 : Nat) : Int))), some (vl (((bitsU (pBt P x y) (gN P) : Nat) : Int))), none, some (vi (0)), some (vi (0))]) (dX8_layer.at 17 rfl) (by decide) rfl ?_
      exact hv
    · replace hv := hv.2.2 q
      refine sw_bipush (dX8_layer.at 7 rfl) (by decide) ?_
      exact sw_iret (dX8_layer.at 8 rfl) rfl (Nat.le_refl _) (Nat.le_refl _) hv

set_option maxHeartbeats 2000000 in
set_option maxRecDepth 20000 in
theorem g_X8_layer_0 {G : GG} {j nw nx gn : Nat} {g : Nat → Sh} {c : Nat → Nat → Int} {post : Option AV → AM → Prop} {x : Int} {y : Int} {n0 : Int} {P : GD} (hnw : nw = 21 ∨ nw = 35) (hE : EL c nw P) (hV : GV P)  (hv : (-2147483648 ≤ x ∧ x < 2147483648) ∧ (-2147483648 ≤ y ∧ y < 2147483648) ∧ ((((decide ((0 ≤ x ∧ x < (gN P : Int)) ∧ 0 ≤ y ∧ y < (gN P : Int))) = false) → post (some (vi ((-2)))) (S nw nx g, 78 + gn, c)) ∧ (((decide ((0 ≤ x ∧ x < (gN P : Int)) ∧ 0 ≤ y ∧ y < (gN P : Int))) = true) → (-2147483648 ≤ n0 ∧ n0 < 2147483648) ∧ (((0 ≤ n0) → SW G (j + 3) mX8_layer 19 [some (vr (0)), some (vi (x)), some (vi (y)), some (vi (n0)), none, none, none, none] [vi (y), vi (x), vr (0)] (S nw nx g, 78 + gn, c) B0 post) ∧ ((¬ (0 ≤ n0)) → post (some (vi ((-2)))) (S nw nx g, 78 + gn, c)))))) :
    SW G (j + 3) mX8_layer 0 [some (vr (0)), some (vi (x)), some (vi (y)), some (vi (n0)), none, none, none, none] [] (S nw nx g, 78 + gn, c) B0 post := by
  refine sw_aload_n (dX8_layer.at 0 rfl) rfl rfl ?_
  refine sw_iload_n (dX8_layer.at 1 rfl) rfl rfl ?_
  refine sw_iload_n (dX8_layer.at 2 rfl) rfl rfl ?_
  refine sw_callV (B' := B0) (As := [vi (x), vi (y)]) (mc := 0) (ms := 0) (dX8_layer.at 3 rfl) lk_X8_157 (S_lt 0 (by decide)) (S_0 nw nx g) rfl rfl (Nat.le_of_ble_eq_true rfl) rfl (Nat.le_refl _) (Nat.le_refl _) ?_
  refine c_X8_arePair (x := x) (y := y) (j := j + 1) hnw hE hV hv.1 hv.2.1 ?_
  replace hv := hv.2.2
  refine sw_if_eq (tgt := 13) (dX8_layer.at 4 rfl) (by decide) (bz_rng _) (fun q => ?_) (fun q => ?_)
  · replace hv := hv.1 (bz_0 q)
    refine sw_bipush (dX8_layer.at 7 rfl) (by decide) ?_
    exact sw_iret (dX8_layer.at 8 rfl) rfl (Nat.le_refl _) (Nat.le_refl _) hv
  · replace hv := hv.2 (bz_n0 q)
    refine sw_iload_n (dX8_layer.at 5 rfl) rfl rfl ?_
    refine sw_if_ge (tgt := 16) (dX8_layer.at 6 rfl) (by decide) hv.1 (fun q => ?_) (fun q => ?_)
    · replace hv := hv.2.1 q
      refine sw_aload_n (dX8_layer.at 9 rfl) rfl rfl ?_
      refine sw_iload_n (dX8_layer.at 10 rfl) rfl rfl ?_
      refine sw_iload_n (dX8_layer.at 11 rfl) rfl rfl ?_
      exact hv
    · replace hv := hv.2.2 q
      refine sw_bipush (dX8_layer.at 7 rfl) (by decide) ?_
      exact sw_iret (dX8_layer.at 8 rfl) rfl (Nat.le_refl _) (Nat.le_refl _) hv

set_option maxHeartbeats 4000000 in
theorem c_X8_layer {G : GG} {j nw nx gn : Nat} {g : Nat → Sh} {c : Nat → Nat → Int} {post : Option AV → AM → Prop} {P : GD} {x y n0 : Int} (hnw : nw = 21 ∨ nw = 35) (hE : EL c nw P) (hV : GV P) (p1 : -2147483648 ≤ x ∧ x < 2147483648) (p2 : -2147483648 ≤ y ∧ y < 2147483648) (p3 : -2147483648 ≤ n0 ∧ n0 < 2147483648) (K : post (some (vi (q_layer P x y n0))) (S nw nx g, 78 + gn, c)) : SM G (j + 4) mX8_layer [vr (0), vi (x), vi (y), vi (n0)] (S nw nx g, 78 + gn, c) 0 0 post := by
  refine sm_of wX8_layer rfl (Nat.le_of_ble_eq_true rfl) ?_
  have hN60 := GV_N hV
  have hR5 := GV_R hV
  by_cases hv : ((0 ≤ x ∧ x < (gN P : Int)) ∧ 0 ≤ y ∧ y < (gN P : Int)) ∧ 0 ≤ n0
  · obtain ⟨x, rfl⟩ : ∃ n : Nat, x = (n : Int) := ⟨x.toNat, by omega⟩
    obtain ⟨y, rfl⟩ : ∃ n : Nat, y = (n : Int) := ⟨y.toNat, by omega⟩
    obtain ⟨n0, rfl⟩ : ∃ n : Nat, n0 = (n : Int) := ⟨n0.toNat, by omega⟩
    have e : q_layer P ((x : Nat) : Int) ((y : Nat) : Int) ((n0 : Nat) : Int) = ((cntU (pLr P x y n0) (gN P) : Nat) : Int) := by
      rw [q_layer, if_pos hv]
      simp only [Int.toNat_natCast]
    rw [e] at K
    have K1 : ∀ z : Int, z = (((cntU (pLr P x y n0) (gN P) : Nat) : Int)) → post (some (vi z)) (S nw nx g, 78 + gn, c) := fun z h => h ▸ K
    have hx : x < gN P := by omega
    have fx := hV.2.2.1 x hx
    have hy : y < gN P := by omega
    have fy := hV.2.2.1 y hy
    refine g_X8_layer_0n hnw hE hV ?_
    refine ⟨?_, ?_, ⟨fun q => ?_, fun q => ⟨?_, ⟨fun q => ⟨?_, ?_, ?_⟩, fun q => ?_⟩⟩⟩⟩
    all_goals first | exact lp_X8_layer_30 hnw hE hV hx hy (by omega) K (gN P) 0 (by omega) | omega | assumption | (exfalso; simp only [decide_eq_true_eq, decide_eq_false_iff_not] at *; omega)
  · have e : q_layer P x y n0 = (-2) := by rw [q_layer, if_neg hv]
    rw [e] at K
    refine g_X8_layer_0 hnw hE hV ?_
    refine ⟨?_, ?_, ⟨fun q => ?_, fun q => ⟨?_, ⟨fun q => ?_, fun q => ?_⟩⟩⟩⟩
    all_goals first | exact K | omega | assumption | (exfalso; simp only [decide_eq_true_eq, decide_eq_false_iff_not] at *; omega)

