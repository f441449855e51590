def clW (c : Nat → Nat → Int) : Nat → Nat → Nat → Int
  | 0 => c
  | n + 1 => up2 (clW c n) 20 n 0
theorem clW_off (c : Nat → Nat → Int) : ∀ n a, a ≠ 20 → clW c n a = c a := by
  intro n
  induction n with
  | zero => intro a _; rfl
  | succ n ih => intro a h; rw [clW, up2_off h]; exact ih a h
theorem clW_in (c : Nat → Nat → Int) : ∀ n i, i < n → clW c n 20 i = 0 := by
  intro n
  induction n with
  | zero => intro i h; omega
  | succ n ih =>
    intro i h
    rw [clW]
    by_cases e : i = n
    · subst e; exact up2_eq _ _ _ _
    · rw [up2_ne (Or.inr e)]; exact ih i (by omega)
set_option maxHeartbeats 2000000 in
set_option maxRecDepth 20000 in
theorem g_X8_clearWays_2 {G : GG} {j nw nx gn : Nat} {g : Nat → Sh} {c : Nat → Nat → Int} {post : Option AV → AM → Prop} {x : Nat}  (hv : (x < 2147483648) ∧ (((60 ≤ x) → post none (S nw nx g, 78 + gn, c)) ∧ ((¬ (60 ≤ x)) → (x < 60) ∧ (SW G (j + 0) mX8_clearWays 2 [some (vr (0)), some (vi (((x + 1 : Nat) : Int)))] [] (S nw nx g, 78 + gn, (up2 c 20 x 0)) B0 post)))) :
    SW G (j + 0) mX8_clearWays 2 [some (vr (0)), some (vi (((x : Nat) : Int)))] [] (S nw nx g, 78 + gn, c) B0 post := by
  refine sw_iload_n (dX8_clearWays.at 2 rfl) rfl rfl ?_
  refine sw_bipush (dX8_clearWays.at 3 rfl) (by decide) ?_
  refine sw_icmpN_ge x 60 (tgt := 21) (dX8_clearWays.at 4 rfl) (by decide) hv.1 (by decide) (fun q => ?_) (fun q => ?_)
  · replace hv := hv.2.1 q
    exact sw_vret (dX8_clearWays.at 12 rfl) rfl (Nat.le_refl _) (Nat.le_refl _) hv
  · replace hv := hv.2.2 q
    refine sw_aload_n (dX8_clearWays.at 5 rfl) rfl rfl ?_
    refine sw_getR (dX8_clearWays.at 6 rfl) fp_X8_58 (S_lt 0 (by decide)) (S_0 nw nx g) rfl rfl ?_
    refine sw_iload_n (dX8_clearWays.at 7 rfl) rfl rfl ?_
    refine sw_lconst (z := 0) (dX8_clearWays.at 8 rfl) (by decide) ?_
    refine sw_lastN x (dX8_clearWays.at 9 rfl) (S_lt 20 (by decide)) (S_20 nw nx g) (by decide) hv.1 ?_
    replace hv := hv.2
    refine sw_iinc (lo' := [some (vr (0)), some (vi (((x + 1 : Nat) : Int)))]) (dX8_clearWays.at 10 rfl) rfl (by decide) rfl ?_
    refine sw_goto (tgt := 2) (dX8_clearWays.at 11 rfl) (by decide) ?_
    exact hv

set_option maxHeartbeats 2000000 in
theorem lp_X8_clearWays_2 {G : GG} {j nw nx gn : Nat} {g : Nat → Sh} {c : Nat → Nat → Int} {post : Option AV → AM → Prop} (K : post none (S nw nx g, 78 + gn, clW c 60)) : ∀ k x : Nat, x + k = 60 → SW G (j + 0) mX8_clearWays 2 [some (vr (0)), some (vi (((x : Nat) : Int)))] [] (S nw nx g, 78 + gn, clW c x) B0 post := by
  intro k
  induction k with
  | zero =>
    intro x hx
    have e : x = 60 := by omega
    subst e
    refine g_X8_clearWays_2 ?_
    refine ⟨?_, ⟨fun q => ?_, fun q => ⟨?_, ?_⟩⟩⟩
    all_goals first | exact K | omega | (exfalso; omega)
  | succ k ih =>
    intro x hx
    refine g_X8_clearWays_2 ?_
    have h := ih (x + 1) (by omega)
    rw [clW] at h
    refine ⟨?_, ⟨fun q => ?_, fun q => ⟨?_, ?_⟩⟩⟩
    all_goals first | exact h | omega | (exfalso; omega)

set_option maxHeartbeats 2000000 in
set_option maxRecDepth 20000 in
theorem g_X8_clearWays_0 {G : GG} {j nw nx gn : Nat} {g : Nat → Sh} {c : Nat → Nat → Int} {post : Option AV → AM → Prop}  (hv : SW G (j + 0) mX8_clearWays 2 [some (vr (0)), some (vi (0))] [] (S nw nx g, 78 + gn, c) B0 post) :
    SW G (j + 0) mX8_clearWays 0 [some (vr (0)), none] [] (S nw nx g, 78 + gn, c) B0 post := by
  refine sw_iconst (dX8_clearWays.at 0 rfl) ?_
  refine sw_istore_n (lo' := [some (vr (0)), some (vi (0))]) (dX8_clearWays.at 1 rfl) rfl (by decide) rfl ?_
  exact hv

set_option maxHeartbeats 2000000 in
theorem c_X8_clearWays {G : GG} {j nw nx gn : Nat} {g : Nat → Sh} {c : Nat → Nat → Int} {post : Option AV → AM → Prop} (K : post none (S nw nx g, 78 + gn, (clW c 60))) : SM G (j + 1) mX8_clearWays [vr (0)] (S nw nx g, 78 + gn, c) 0 0 post := by
  refine sm_of wX8_clearWays rfl (Nat.le_of_ble_eq_true rfl) ?_
  refine g_X8_clearWays_0  ?_
  exact lp_X8_clearWays_2 K 60 0 (by omega)

def sCov (P : GD) (T : Nat) (f : Nat → Int) (x : Nat) : Nat → Int
  | 0 => 0
  | t + 1 => if T.testBit t && gCov P t x then sCov P T f x t + f t else sCov P T f x t
def sMir (P : GD) (f : Nat → Int) (x : Nat) : Nat → Int
  | 0 => 0
  | i + 1 => if gL P (gX P x (gT P i)) < gL P x then sMir P f x i + f (gX P x (gT P i)) else sMir P f x i
set_option maxHeartbeats 2000000 in
set_option maxRecDepth 20000 in
theorem g_X8_waysByCovers_6 {G : GG} {j nw nx gn : Nat} {g : Nat → Sh} {c : Nat → Nat → Int} {post : Option AV → AM → Prop} {x : Nat} {T : Nat} {P : GD} {z : Nat} (hnw : nw = 21 ∨ nw = 35) (hE : EL c nw P) (hV : GV P)  (hv : (z < 2147483648) ∧ (x < 2147483648) ∧ (((x ≤ z) → post (some (vl (sCov P T (c 20) x z))) (S nw nx g, 78 + gn, c)) ∧ ((¬ (x ≤ z)) → (T < 9223372036854775808) ∧ (z < 64) ∧ ((((T.testBit z) = false) → SW G (j + 3) mX8_waysByCovers 6 [some (vr (0)), some (vi (((x : Nat) : Int))), some (vl (((T : Nat) : Int))), none, some (vl (sCov P T (c 20) x z)), none, some (vi (((z + 1 : Nat) : Int)))] [] (S nw nx g, 78 + gn, c) B0 post) ∧ (((T.testBit z) = true) → (z < gN P) ∧ (x < gN P) ∧ ((((gCov P z x) = false) → SW G (j + 3) mX8_waysByCovers 6 [some (vr (0)), some (vi (((x : Nat) : Int))), some (vl (((T : Nat) : Int))), none, some (vl (sCov P T (c 20) x z)), none, some (vi (((z + 1 : Nat) : Int)))] [] (S nw nx g, 78 + gn, c) B0 post) ∧ (((gCov P z x) = true) → (z < 60) ∧ (SW G (j + 3) mX8_waysByCovers 6 [some (vr (0)), some (vi (((x : Nat) : Int))), some (vl (((T : Nat) : Int))), none, some (vl ((sCov P T (c 20) x z) + (c 20 z))), none, some (vi (((z + 1 : Nat) : Int)))] [] (S nw nx g, 78 + gn, c) B0 post)))))))) :
    SW G (j + 3) mX8_waysByCovers 6 [some (vr (0)), some (vi (((x : Nat) : Int))), some (vl (((T : Nat) : Int))), none, some (vl (sCov P T (c 20) x z)), none, some (vi (((z : Nat) : Int)))] [] (S nw nx g, 78 + gn, c) B0 post := by
  refine sw_iload (dX8_waysByCovers.at 4 rfl) rfl ?_
  refine sw_iload_n (dX8_waysByCovers.at 5 rfl) rfl rfl ?_
  refine sw_icmpN_ge z x (tgt := 52) (dX8_waysByCovers.at 6 rfl) (by decide) hv.1 hv.2.1 (fun q => ?_) (fun q => ?_)
  · replace hv := hv.2.2.1 q
    refine sw_lload (dX8_waysByCovers.at 26 rfl) rfl ?_
    exact sw_lret (dX8_waysByCovers.at 27 rfl) rfl (Nat.le_refl _) (Nat.le_refl _) hv
  · replace hv := hv.2.2.2 q
    refine sw_lload_n (dX8_waysByCovers.at 7 rfl) rfl rfl ?_
    refine sw_iload (dX8_waysByCovers.at 8 rfl) rfl ?_
    refine sw_callS (post' := post) (B' := B0) (As := [vl (((T : Nat) : Int)), vi (((z : Nat) : Int))]) (mc := 0) (ms := 0) (dX8_waysByCovers.at 9 rfl) lk_X8_185 rfl rfl (Nat.le_of_ble_eq_true rfl) rfl (Nat.le_refl _) (Nat.le_refl _) ?_
    refine c_X8_hasBit (s := T) (i := z) (j := j + 2) hv.1 hv.2.1 ?_
    replace hv := hv.2.2
    refine sw_if_eq (tgt := 46) (dX8_waysByCovers.at 10 rfl) (by decide) (bz_rng _) (fun q => ?_) (fun q => ?_)
    · replace hv := hv.1 (bz_0 q)
      refine sw_iinc (lo' := [some (vr (0)), some (vi (((x : Nat) : Int))), some (vl (((T : Nat) : Int))), none, some (vl (sCov P T (c 20) x z)), none, some (vi (((z + 1 : Nat) : Int)))]) (dX8_waysByCovers.at 24 rfl) rfl (by decide) rfl ?_
      refine sw_goto (tgt := 6) (dX8_waysByCovers.at 25 rfl) (by decide) ?_
      exact hv
    · replace hv := hv.2 (bz_n0 q)
      refine sw_aload_n (dX8_waysByCovers.at 11 rfl) rfl rfl ?_
      refine sw_getR (dX8_waysByCovers.at 12 rfl) fp_X8_65 (S_lt 0 (by decide)) (S_0 nw nx g) rfl rfl ?_
      refine sw_iload (dX8_waysByCovers.at 13 rfl) rfl ?_
      refine sw_iload_n (dX8_waysByCovers.at 14 rfl) rfl rfl ?_
      refine sw_callV (B' := B0) (As := [vi (((z : Nat) : Int)), vi (((x : Nat) : Int))]) (mc := 0) (ms := 0) (dX8_waysByCovers.at 15 rfl) lk_X8_179 (S_e_lt hnw) (S_e hnw) rfl rfl (Nat.le_of_ble_eq_true rfl) rfl (Nat.le_refl _) (Nat.le_refl _) ?_
      refine c_X1_isCover (e := nw) (v := z) (w := x) (j := j + 0) hnw hE hV hv.1 hv.2.1 ?_
      replace hv := hv.2.2
      refine sw_if_eq (tgt := 46) (dX8_waysByCovers.at 16 rfl) (by decide) (bz_rng _) (fun q => ?_) (fun q => ?_)
      · replace hv := hv.1 (bz_0 q)
        refine sw_iinc (lo' := [some (vr (0)), some (vi (((x : Nat) : Int))), some (vl (((T : Nat) : Int))), none, some (vl (sCov P T (c 20) x z)), none, some (vi (((z + 1 : Nat) : Int)))]) (dX8_waysByCovers.at 24 rfl) rfl (by decide) rfl ?_
        refine sw_goto (tgt := 6) (dX8_waysByCovers.at 25 rfl) (by decide) ?_
        exact hv
      · replace hv := hv.2 (bz_n0 q)
        refine sw_lload (dX8_waysByCovers.at 17 rfl) rfl ?_
        refine sw_aload_n (dX8_waysByCovers.at 18 rfl) rfl rfl ?_
        refine sw_getR (dX8_waysByCovers.at 19 rfl) fp_X8_58 (S_lt 0 (by decide)) (S_0 nw nx g) rfl rfl ?_
        refine sw_iload (dX8_waysByCovers.at 20 rfl) rfl ?_
        refine sw_laldN z (dX8_waysByCovers.at 21 rfl) (S_lt 20 (by decide)) (S_20 nw nx g) (by decide) hv.1 rfl ?_
        replace hv := hv.2
        refine sw_ladd (dX8_waysByCovers.at 22 rfl) ?_
        refine sw_lstore (lo' := [some (vr (0)), some (vi (((x : Nat) : Int))), some (vl (((T : Nat) : Int))), none, some (vl ((sCov P T (c 20) x z) + (c 20 z))), none, some (vi (((z : Nat) : Int)))]) (dX8_waysByCovers.at 23 rfl) (by decide) rfl ?_
        refine sw_iinc (lo' := [some (vr (0)), some (vi (((x : Nat) : Int))), some (vl (((T : Nat) : Int))), none, some (vl ((sCov P T (c 20) x z) + (c 20 z))), none, some (vi (((z + 1 : Nat) : Int)))]) (dX8_waysByCovers.at 24 rfl) rfl (by decide) rfl ?_
        refine sw_goto (tgt := 6) (dX8_waysByCovers.at 25 rfl) (by decide) ?_
        exact hv

set_option maxHeartbeats 2000000 in
theorem lp_X8_waysByCovers_6 {G : GG} {j nw nx gn : Nat} {g : Nat → Sh} {c : Nat → Nat → Int} {post : Option AV → AM → Prop} {P : GD} {x : Nat} {T : Nat} (hnw : nw = 21 ∨ nw = 35) (hE : EL c nw P) (hV : GV P) (hx0 : x < gN P) (hT : T < 2 ^ 60) (K : post (some (vl (sCov P T (c 20) x x))) (S nw nx g, 78 + gn, c)) : ∀ k z : Nat, z + k = x → SW G (j + 3) mX8_waysByCovers 6 [some (vr (0)), some (vi (((x : Nat) : Int))), some (vl (((T : Nat) : Int))), none, some (vl (sCov P T (c 20) x z)), none, some (vi (((z : Nat) : Int)))] [] (S nw nx g, 78 + gn, c) B0 post := by
  intro k
  induction k with
  | zero =>
    intro z hx
    refine g_X8_waysByCovers_6 hnw hE hV ?_
    have := GV_N hV
    have h63 := lt63 hT
    have hx2 : z = x := by omega
    subst hx2
    refine ⟨?_, ?_, ⟨fun q => ?_, fun q => ⟨?_, ?_, ⟨fun q => ?_, fun q => ⟨?_, ?_, ⟨fun q => ?_, fun q => ⟨?_, ?_⟩⟩⟩⟩⟩⟩⟩
    all_goals first | exact K | omega | (exfalso; omega)
  | succ k ih =>
    intro z hx
    refine g_X8_waysByCovers_6 hnw hE hV ?_
    have := GV_N hV
    have h63 := lt63 hT
    have hi := ih (z + 1) (by omega)
    simp only [sCov] at hi
    refine ⟨?_, ?_, ⟨fun q => ?_, fun q => ⟨?_, ?_, ⟨fun q => ?_, fun q => ⟨?_, ?_, ⟨fun q => ?_, fun q => ⟨?_, ?_⟩⟩⟩⟩⟩⟩⟩
    all_goals first | omega | (exfalso; omega) | assumption | exact hi | (simp only [*, if_true, if_false, ite_true, ite_false, Bool.false_eq_true, and_true, true_and, and_false, false_and, Bool.and_true, Bool.and_false, Bool.true_and, Bool.false_and, decide_true, decide_false] at hi; exact hi) | (simp only [*, if_true, if_false, ite_true, ite_false, Bool.false_eq_true, and_true, true_and, and_false, false_and, Bool.and_true, Bool.and_false, Bool.true_and, Bool.false_and, decide_true, decide_false] at hi ⊢; exact hi)

set_option maxHeartbeats 2000000 in
set_option maxRecDepth 20000 in
theorem g_X8_waysByCovers_0 {G : GG} {j nw nx gn : Nat} {g : Nat → Sh} {c : Nat → Nat → Int} {post : Option AV → AM → Prop} {x : Nat} {T : Nat}  (hv : SW G (j + 3) mX8_waysByCovers 6 [some (vr (0)), some (vi (((x : Nat) : Int))), some (vl (((T : Nat) : Int))), none, some (vl (0)), none, some (vi (0))] [] (S nw nx g, 78 + gn, c) B0 post) :
    SW G (j + 3) mX8_waysByCovers 0 [some (vr (0)), some (vi (((x : Nat) : Int))), some (vl (((T : Nat) : Int))), none, none, none, none] [] (S nw nx g, 78 + gn, c) B0 post := by
  refine sw_lconst (z := 0) (dX8_waysByCovers.at 0 rfl) (by decide) ?_
  refine sw_lstore (lo' := [some (vr (0)), some (vi (((x : Nat) : Int))), some (vl (((T : Nat) : Int))), none, some (vl (0)), none, none]) (dX8_waysByCovers.at 1 rfl) (by decide) rfl ?_
  refine sw_iconst (dX8_waysByCovers.at 2 rfl) ?_
  refine sw_istore (lo' := [some (vr (0)), some (vi (((x : Nat) : Int))), some (vl (((T : Nat) : Int))), none, some (vl (0)), none, some (vi (0))]) (dX8_waysByCovers.at 3 rfl) (by decide) rfl ?_
  exact hv

set_option maxHeartbeats 2000000 in
theorem c_X8_waysByCovers {G : GG} {j nw nx gn : Nat} {g : Nat → Sh} {c : Nat → Nat → Int} {post : Option AV → AM → Prop} {P : GD} {x : Nat} {T : Nat} (hnw : nw = 21 ∨ nw = 35) (hE : EL c nw P) (hV : GV P) (p1 : x < gN P) (p2 : T < 2 ^ 60) (K : post (some (vl (sCov P T (c 20) x x))) (S nw nx g, 78 + gn, c)) : SM G (j + 4) mX8_waysByCovers [vr (0), vi (((x : Nat) : Int)), vl (((T : Nat) : Int))] (S nw nx g, 78 + gn, c) 0 0 post := by
  refine sm_of wX8_waysByCovers rfl (Nat.le_of_ble_eq_true rfl) ?_
  refine g_X8_waysByCovers_0  ?_
  exact lp_X8_waysByCovers_6 hnw hE hV p1 p2 K (x) 0 (by omega)

set_option maxHeartbeats 2000000 in
set_option maxRecDepth 20000 in
theorem g_X8_waysByMirrors_5 {G : GG} {j nw nx gn : Nat} {g : Nat → Sh} {c : Nat → Nat → Int} {post : Option AV → AM → Prop} {x : Nat} {P : GD} {z : Nat} (hnw : nw = 21 ∨ nw = 35) (hE : EL c nw P) (hV : GV P)  (hv : (z < 2147483648) ∧ (gM P < 2147483648) ∧ (((gM P ≤ z) → post (some (vl (sMir P (c 20) x z))) (S nw nx g, 78 + gn, c)) ∧ ((¬ (gM P ≤ z)) → (z < gM P) ∧ ((x < gN P) ∧ ((gT P z) < gN P) ∧ ((gX P x (gT P z) < gN P) ∧ ((x < gN P) ∧ ((gL P (gX P x (gT P z)) < 2147483648) ∧ (gL P x < 2147483648) ∧ (((gL P x ≤ gL P (gX P x (gT P z))) → SW G (j + 1) mX8_waysByMirrors 5 [some (vr (0)), some (vi (((x : Nat) : Int))), some (vl (sMir P (c 20) x z)), none, some (vi (((z + 1 : Nat) : Int))), none] [] (S nw nx g, 78 + gn, c) B0 post) ∧ ((¬ (gL P x ≤ gL P (gX P x (gT P z)))) → (gX P x (gT P z) < 60) ∧ (SW G (j + 1) mX8_waysByMirrors 5 [some (vr (0)), some (vi (((x : Nat) : Int))), some (vl ((sMir P (c 20) x z) + (c 20 (gX P x (gT P z))))), none, some (vi (((z + 1 : Nat) : Int))), none] [] (S nw nx g, 78 + gn, c) B0 post)))))))))) :
    SW G (j + 1) mX8_waysByMirrors 5 [some (vr (0)), some (vi (((x : Nat) : Int))), some (vl (sMir P (c 20) x z)), none, some (vi (((z : Nat) : Int))), none] [] (S nw nx g, 78 + gn, c) B0 post := by
  refine sw_iload (dX8_waysByMirrors.at 4 rfl) rfl ?_
  refine sw_aload_n (dX8_waysByMirrors.at 5 rfl) rfl rfl ?_
  refine sw_getR (dX8_waysByMirrors.at 6 rfl) fp_X8_65 (S_lt 0 (by decide)) (S_0 nw nx g) rfl rfl ?_
  refine sw_getIE (w := ((gM P : Nat) : Int)) (dX8_waysByMirrors.at 7 rfl) fp_X8_116 (S_e_lt hnw) (S_e hnw) rfl (EL_M hE) ?_
  refine sw_icmpN_ge z (gM P) (tgt := 75) (dX8_waysByMirrors.at 8 rfl) (by decide) hv.1 hv.2.1 (fun q => ?_) (fun q => ?_)
  · replace hv := hv.2.2.1 q
    refine sw_lload_n (dX8_waysByMirrors.at 39 rfl) rfl rfl ?_
    exact sw_lret (dX8_waysByMirrors.at 40 rfl) rfl (Nat.le_refl _) (Nat.le_refl _) hv
  · replace hv := hv.2.2.2 q
    refine sw_aload_n (dX8_waysByMirrors.at 9 rfl) rfl rfl ?_
    refine sw_getR (dX8_waysByMirrors.at 10 rfl) fp_X8_65 (S_lt 0 (by decide)) (S_0 nw nx g) rfl rfl ?_
    refine sw_iload_n (dX8_waysByMirrors.at 11 rfl) rfl rfl ?_
    refine sw_aload_n (dX8_waysByMirrors.at 12 rfl) rfl rfl ?_
    refine sw_getR (dX8_waysByMirrors.at 13 rfl) fp_X8_65 (S_lt 0 (by decide)) (S_0 nw nx g) rfl rfl ?_
    refine sw_getR (dX8_waysByMirrors.at 14 rfl) fp_X8_173 (S_e_lt hnw) (S_e hnw) rfl rfl ?_
    refine sw_iload (dX8_waysByMirrors.at 15 rfl) rfl ?_
    refine sw_ialdN z (w := ((gT P z : Nat) : Int)) (dX8_waysByMirrors.at 16 rfl) (S_ek_lt hnw (by decide)) (S_e_10 hnw) (by decide) (GV_ltM hV hv.1) (EL_T hE hv.1) ?_
    replace hv := hv.2
    refine sw_callV (B' := B0) (As := [vi (((x : Nat) : Int)), vi (((gT P z : Nat) : Int))]) (mc := 0) (ms := 0) (dX8_waysByMirrors.at 17 rfl) lk_X8_161 (S_e_lt hnw) (S_e hnw) rfl rfl (Nat.le_of_ble_eq_true rfl) rfl (Nat.le_refl _) (Nat.le_refl _) ?_
    refine c_X1_mulP (e := nw) (x := x) (y := (gT P z)) (j := j + 0) hnw hE hV hv.1 hv.2.1 ?_
    replace hv := hv.2.2
    refine sw_istore (lo' := [some (vr (0)), some (vi (((x : Nat) : Int))), some (vl (sMir P (c 20) x z)), none, some (vi (((z : Nat) : Int))), some (vi (((gX P x (gT P z) : Nat) : Int)))]) (dX8_waysByMirrors.at 18 rfl) (by decide) rfl ?_
    refine sw_aload_n (dX8_waysByMirrors.at 19 rfl) rfl rfl ?_
    refine sw_getR (dX8_waysByMirrors.at 20 rfl) fp_X8_65 (S_lt 0 (by decide)) (S_0 nw nx g) rfl rfl ?_
    refine sw_getR (dX8_waysByMirrors.at 21 rfl) fp_X8_133 (S_e_lt hnw) (S_e hnw) rfl rfl ?_
    refine sw_iload (dX8_waysByMirrors.at 22 rfl) rfl ?_
    refine sw_ialdN (gX P x (gT P z)) (w := ((gL P (gX P x (gT P z)) : Nat) : Int)) (dX8_waysByMirrors.at 23 rfl) (S_ek_lt hnw (by decide)) (S_e_2 hnw) (by decide) (GV_lt hV hv.1) (EL_L hE hv.1) ?_
    replace hv := hv.2
    refine sw_aload_n (dX8_waysByMirrors.at 24 rfl) rfl rfl ?_
    refine sw_getR (dX8_waysByMirrors.at 25 rfl) fp_X8_65 (S_lt 0 (by decide)) (S_0 nw nx g) rfl rfl ?_
    refine sw_getR (dX8_waysByMirrors.at 26 rfl) fp_X8_133 (S_e_lt hnw) (S_e hnw) rfl rfl ?_
    refine sw_iload_n (dX8_waysByMirrors.at 27 rfl) rfl rfl ?_
    refine sw_ialdN x (w := ((gL P x : Nat) : Int)) (dX8_waysByMirrors.at 28 rfl) (S_ek_lt hnw (by decide)) (S_e_2 hnw) (by decide) (GV_lt hV hv.1) (EL_L hE hv.1) ?_
    replace hv := hv.2
    refine sw_icmpN_ge (gL P (gX P x (gT P z))) (gL P x) (tgt := 69) (dX8_waysByMirrors.at 29 rfl) (by decide) hv.1 hv.2.1 (fun q => ?_) (fun q => ?_)
    · replace hv := hv.2.2.1 q
      refine sw_iinc (lo' := [some (vr (0)), some (vi (((x : Nat) : Int))), some (vl (sMir P (c 20) x z)), none, some (vi (((z + 1 : Nat) : Int))), some (vi (((gX P x (gT P z) : Nat) : Int)))]) (dX8_waysByMirrors.at 37 rfl) rfl (by decide) rfl ?_
      refine sw_goto (tgt := 5) (dX8_waysByMirrors.at 38 rfl) (by decide) ?_
      exact sw_mask (bs := [true, true, true, false, true, false]) hv
    · replace hv := hv.2.2.2 q
      refine sw_lload_n (dX8_waysByMirrors.at 30 rfl) rfl rfl ?_
      refine sw_aload_n (dX8_waysByMirrors.at 31 rfl) rfl rfl ?_
      refine sw_getR (dX8_waysByMirrors.at 32 rfl) fp_X8_58 (S_lt 0 (by decide)) (S_0 nw nx g) rfl rfl ?_
      refine sw_iload (dX8_waysByMirrors.at 33 rfl) rfl ?_
      refine sw_laldN (gX P x (gT P z)) (dX8_waysByMirrors.at 34 rfl) (S_lt 20 (by decide)) (S_20 nw nx g) (by decide) hv.1 rfl ?_
      replace hv := hv.2
      refine sw_ladd (dX8_waysByMirrors.at 35 rfl) ?_
      refine sw_lstore_n (lo' := [some (vr (0)), some (vi (((x : Nat) : Int))), some (vl ((sMir P (c 20) x z) + (c 20 (gX P x (gT P z))))), none, some (vi (((z : Nat) : Int))), some (vi (((gX P x (gT P z) : Nat) : Int)))]) (dX8_waysByMirrors.at 36 rfl) rfl (by decide) rfl ?_
      refine sw_iinc (lo' := [some (vr (0)), some (vi (((x : Nat) : Int))), some (vl ((sMir P (c 20) x z) + (c 20 (gX P x (gT P z))))), none, some (vi (((z + 1 : Nat) : Int))), some (vi (((gX P x (gT P z) : Nat) : Int)))]) (dX8_waysByMirrors.at 37 rfl) rfl (by decide) rfl ?_
      refine sw_goto (tgt := 5) (dX8_waysByMirrors.at 38 rfl) (by decide) ?_
      exact sw_mask (bs := [true, true, true, false, true, false]) hv

set_option maxHeartbeats 2000000 in
theorem lp_X8_waysByMirrors_5 {G : GG} {j nw nx gn : Nat} {g : Nat → Sh} {c : Nat → Nat → Int} {post : Option AV → AM → Prop} {P : GD} {x : Nat} (hnw : nw = 21 ∨ nw = 35) (hE : EL c nw P) (hV : GV P) (hx0 : x < gN P) (K : post (some (vl (sMir P (c 20) x (gM P)))) (S nw nx g, 78 + gn, c)) : ∀ k z : Nat, z + k = gM P → SW G (j + 1) mX8_waysByMirrors 5 [some (vr (0)), some (vi (((x : Nat) : Int))), some (vl (sMir P (c 20) x z)), none, some (vi (((z : Nat) : Int))), none] [] (S nw nx g, 78 + gn, c) B0 post := by
  intro k
  induction k with
  | zero =>
    intro z hx
    refine g_X8_waysByMirrors_5 hnw hE hV ?_
    have := GV_N hV
    have hm := hV.1.2.2.1
    have f0 := (hV.2.2.1 x hx0).1
    have f1 := fun h => hV.2.2.2.2.2 z h
    have f2 := fun h => hV.2.2.2.2.1 x (gT P z) hx0 (f1 h)
    have f3 := fun h => (hV.2.2.1 _ (f2 h)).1
    have hx2 : z = gM P := by omega
    subst hx2
    refine ⟨?_, ?_, ⟨fun q => ?_, fun q => ⟨?_, ⟨?_, ?_, ⟨?_, ⟨?_, ⟨?_, ?_, ⟨fun q => ?_, fun q => ⟨?_, ?_⟩⟩⟩⟩⟩⟩⟩⟩⟩
    all_goals first | exact K | omega | (exfalso; omega)
  | succ k ih =>
    intro z hx
    refine g_X8_waysByMirrors_5 hnw hE hV ?_
    have := GV_N hV
    have hm := hV.1.2.2.1
    have f0 := (hV.2.2.1 x hx0).1
    have f1 := fun h => hV.2.2.2.2.2 z h
    have f2 := fun h => hV.2.2.2.2.1 x (gT P z) hx0 (f1 h)
    have f3 := fun h => (hV.2.2.1 _ (f2 h)).1
    have hi := ih (z + 1) (by omega)
    simp only [sMir] at hi
    refine ⟨?_, ?_, ⟨fun q => ?_, fun q => ⟨?_, ⟨?_, ?_, ⟨?_, ⟨?_, ⟨?_, ?_, ⟨fun q => ?_, fun q => ⟨?_, ?_⟩⟩⟩⟩⟩⟩⟩⟩⟩
    all_goals first | omega | (exfalso; omega) | assumption | exact hi | exact f1 (by omega) | exact f2 (by omega) | (have := f3 (by omega); omega) | (have := f2 (by omega); omega) | (have h9 : gL P (gX P x (gT P z)) < gL P x := (by omega); rw [if_pos h9] at hi; exact hi) | (have h9 : ¬ gL P (gX P x (gT P z)) < gL P x := (by omega); rw [if_neg h9] at hi; exact hi) | (simp only [*, if_true, if_false, ite_true, ite_false, Bool.false_eq_true, and_true, true_and, and_false, false_and, Bool.and_true, Bool.and_false, Bool.true_and, Bool.false_and, decide_true, decide_false] at hi; exact hi) | (simp only [*, if_true, if_false, ite_true, ite_false, Bool.false_eq_true, and_true, true_and, and_false, false_and, Bool.and_true, Bool.and_false, Bool.true_and, Bool.false_and, decide_true, decide_false] at hi ⊢; exact hi)

set_option maxHeartbeats 2000000 in
set_option maxRecDepth 20000 in
theorem g_X8_waysByMirrors_0 {G : GG} {j nw nx gn : Nat} {g : Nat → Sh} {c : Nat → Nat → Int} {post : Option AV → AM → Prop} {x : Nat}  (hv : SW G (j + 1) mX8_waysByMirrors 5 [some (vr (0)), some (vi (((x : Nat) : Int))), some (vl (0)), none, some (vi (0)), none] [] (S nw nx g, 78 + gn, c) B0 post) :
    SW G (j + 1) mX8_waysByMirrors 0 [some (vr (0)), some (vi (((x : Nat) : Int))), none, none, none, none] [] (S nw nx g, 78 + gn, c) B0 post := by
  refine sw_lconst (z := 0) (dX8_waysByMirrors.at 0 rfl) (by decide) ?_
  refine sw_lstore_n (lo' := [some (vr (0)), some (vi (((x : Nat) : Int))), some (vl (0)), none, none, none]) (dX8_waysByMirrors.at 1 rfl) rfl (by decide) rfl ?_
  refine sw_iconst (dX8_waysByMirrors.at 2 rfl) ?_
  refine sw_istore (lo' := [some (vr (0)), some (vi (((x : Nat) : Int))), some (vl (0)), none, some (vi (0)), none]) (dX8_waysByMirrors.at 3 rfl) (by decide) rfl ?_
  exact hv

set_option maxHeartbeats 2000000 in
theorem c_X8_waysByMirrors {G : GG} {j nw nx gn : Nat} {g : Nat → Sh} {c : Nat → Nat → Int} {post : Option AV → AM → Prop} {P : GD} {x : Nat} (hnw : nw = 21 ∨ nw = 35) (hE : EL c nw P) (hV : GV P) (p1 : x < gN P) (K : post (some (vl (sMir P (c 20) x (gM P)))) (S nw nx g, 78 + gn, c)) : SM G (j + 2) mX8_waysByMirrors [vr (0), vi (((x : Nat) : Int))] (S nw nx g, 78 + gn, c) 0 0 post := by
  refine sm_of wX8_waysByMirrors rfl (Nat.le_of_ble_eq_true rfl) ?_
  refine g_X8_waysByMirrors_0  ?_
  exact lp_X8_waysByMirrors_5 hnw hE hV p1 K (gM P) 0 (by omega)

/-- rows of covers: how many lead to each, after d steps from x + 1 on -/
def chF (P : GD) (T x : Nat) : Nat → Nat → Int
  | 0 => fun i => if i = x then 1 else 0
  | d + 1 => if T.testBit (x + 1 + d) then (fun i => if i = x + 1 + d then sCov P T (chF P T x d) (x + 1 + d) (x + 1 + d) else chF P T x d i) else chF P T x d
def chM (P : GD) (c : Nat → Nat → Int) (T x : Nat) : Nat → Nat → Nat → Int
  | 0 => up2 (clW c 60) 20 x 1
  | d + 1 => if T.testBit (x + 1 + d) then up2 (chM P c T x d) 20 (x + 1 + d) (sCov P T (chM P c T x d 20) (x + 1 + d) (x + 1 + d)) else chM P c T x d
theorem chM_off (P : GD) (c : Nat → Nat → Int) (T x : Nat) : ∀ d a, a ≠ 20 → chM P c T x d a = c a := by
  intro d
  induction d with
  | zero => intro a h; rw [chM, up2_off h]; exact clW_off c 60 a h
  | succ d ih =>
    intro a h
    rw [chM]
    split
    · rw [up2_off h]; exact ih a h
    · exact ih a h
theorem sCov_cong {P : GD} {T x : Nat} {f f2 : Nat → Int} : ∀ n, (∀ i, i < n → f i = f2 i) → sCov P T f x n = sCov P T f2 x n := by
  intro n
  induction n with
  | zero => intro _; rfl
  | succ n ih =>
    intro h
    rw [sCov, sCov, ih (fun i hi => h i (by omega)), h n (by omega)]
theorem chM_in (P : GD) (c : Nat → Nat → Int) (T x : Nat) (hx : x < 60) : ∀ d, x + d < 60 → ∀ i, i < 60 → chM P c T x d 20 i = chF P T x d i := by
  intro d
  induction d with
  | zero =>
    intro _ i hi
    rw [chM, chF]
    show _ = (if _ then _ else _)
    by_cases e : i = x
    · rw [e, up2_eq, if_pos rfl]
    · rw [up2_ne (Or.inr e), if_neg e]; exact clW_in c 60 i hi
  | succ d ih =>
    intro hd i hi
    have h := ih (by omega)
    rw [chM, chF]
    split
    · show _ = (if _ then _ else _)
      by_cases e : i = x + 1 + d
      · rw [e, up2_eq, if_pos rfl]
        exact sCov_cong _ (fun i hi => h i (by omega))
      · rw [up2_ne (Or.inr e), if_neg e]; exact h i hi
    · exact h i hi
set_option maxHeartbeats 2000000 in
set_option maxRecDepth 20000 in
theorem g_X8_chains_36 {G : GG} {j nw nx gn : Nat} {g : Nat → Sh} {c : Nat → Nat → Int} {post : Option AV → AM → Prop} {x : Nat} {y : Nat} {P : GD} {T : Nat} {z : Nat} (hnw : nw = 21 ∨ nw = 35) (hE : EL c nw P) (hV : GV P)  (hv : (z < 2147483648) ∧ (y < 2147483648) ∧ (((y < z) → (y < 60) ∧ (post (some (vl (c 20 y))) (S nw nx g, 78 + gn, c))) ∧ ((¬ (y < z)) → (T < 9223372036854775808) ∧ (z < 64) ∧ ((((T.testBit z) = false) → SW G (j + 4) mX8_chains 36 [some (vr (0)), some (vi (((x : Nat) : Int))), some (vi (((y : Nat) : Int))), some (vl (((T : Nat) : Int))), none, some (vi (((z + 1 : Nat) : Int)))] [] (S nw nx g, 78 + gn, c) B0 post) ∧ (((T.testBit z) = true) → (z < gN P) ∧ (T < 2 ^ 60) ∧ ((z < 60) ∧ (SW G (j + 4) mX8_chains 36 [some (vr (0)), some (vi (((x : Nat) : Int))), some (vi (((y : Nat) : Int))), some (vl (((T : Nat) : Int))), none, some (vi (((z + 1 : Nat) : Int)))] [] (S nw nx g, 78 + gn, (up2 c 20 z (sCov P T (c 20) z z))) B0 post))))))) :
    SW G (j + 4) mX8_chains 36 [some (vr (0)), some (vi (((x : Nat) : Int))), some (vi (((y : Nat) : Int))), some (vl (((T : Nat) : Int))), none, some (vi (((z : Nat) : Int)))] [] (S nw nx g, 78 + gn, c) B0 post := by
  refine sw_iload (dX8_chains.at 23 rfl) rfl ?_
  refine sw_iload_n (dX8_chains.at 24 rfl) rfl rfl ?_
  refine sw_icmpN_gt z y (tgt := 71) (dX8_chains.at 25 rfl) (by decide) hv.1 hv.2.1 (fun q => ?_) (fun q => ?_)
  · replace hv := hv.2.2.1 q
    refine sw_aload_n (dX8_chains.at 40 rfl) rfl rfl ?_
    refine sw_getR (dX8_chains.at 41 rfl) fp_X8_58 (S_lt 0 (by decide)) (S_0 nw nx g) rfl rfl ?_
    refine sw_iload_n (dX8_chains.at 42 rfl) rfl rfl ?_
    refine sw_laldN y (dX8_chains.at 43 rfl) (S_lt 20 (by decide)) (S_20 nw nx g) (by decide) hv.1 rfl ?_
    replace hv := hv.2
    exact sw_lret (dX8_chains.at 44 rfl) rfl (Nat.le_refl _) (Nat.le_refl _) hv
  · replace hv := hv.2.2.2 q
    refine sw_lload_n (dX8_chains.at 26 rfl) rfl rfl ?_
    refine sw_iload (dX8_chains.at 27 rfl) rfl ?_
    refine sw_callS (post' := post) (B' := B0) (As := [vl (((T : Nat) : Int)), vi (((z : Nat) : Int))]) (mc := 0) (ms := 0) (dX8_chains.at 28 rfl) lk_X8_185 rfl rfl (Nat.le_of_ble_eq_true rfl) rfl (Nat.le_refl _) (Nat.le_refl _) ?_
    refine c_X8_hasBit (s := T) (i := z) (j := j + 3) hv.1 hv.2.1 ?_
    replace hv := hv.2.2
    refine sw_if_eq (tgt := 65) (dX8_chains.at 29 rfl) (by decide) (bz_rng _) (fun q => ?_) (fun q => ?_)
    · replace hv := hv.1 (bz_0 q)
      refine sw_iinc (lo' := [some (vr (0)), some (vi (((x : Nat) : Int))), some (vi (((y : Nat) : Int))), some (vl (((T : Nat) : Int))), none, some (vi (((z + 1 : Nat) : Int)))]) (dX8_chains.at 38 rfl) rfl (by decide) rfl ?_
      refine sw_goto (tgt := 36) (dX8_chains.at 39 rfl) (by decide) ?_
      exact hv
    · replace hv := hv.2 (bz_n0 q)
      refine sw_aload_n (dX8_chains.at 30 rfl) rfl rfl ?_
      refine sw_getR (dX8_chains.at 31 rfl) fp_X8_58 (S_lt 0 (by decide)) (S_0 nw nx g) rfl rfl ?_
      refine sw_iload (dX8_chains.at 32 rfl) rfl ?_
      refine sw_aload_n (dX8_chains.at 33 rfl) rfl rfl ?_
      refine sw_iload (dX8_chains.at 34 rfl) rfl ?_
      refine sw_lload_n (dX8_chains.at 35 rfl) rfl rfl ?_
      refine sw_callV (B' := B0) (As := [vi (((z : Nat) : Int)), vl (((T : Nat) : Int))]) (mc := 0) (ms := 0) (dX8_chains.at 36 rfl) lk_X8_192 (S_lt 0 (by decide)) (S_0 nw nx g) rfl rfl (Nat.le_of_ble_eq_true rfl) rfl (Nat.le_refl _) (Nat.le_refl _) ?_
      refine c_X8_waysByCovers (x := z) (T := T) (j := j + 0) hnw hE hV hv.1 hv.2.1 ?_
      replace hv := hv.2.2
      refine sw_lastN z (dX8_chains.at 37 rfl) (S_lt 20 (by decide)) (S_20 nw nx g) (by decide) hv.1 ?_
      replace hv := hv.2
      refine sw_iinc (lo' := [some (vr (0)), some (vi (((x : Nat) : Int))), some (vi (((y : Nat) : Int))), some (vl (((T : Nat) : Int))), none, some (vi (((z + 1 : Nat) : Int)))]) (dX8_chains.at 38 rfl) rfl (by decide) rfl ?_
      refine sw_goto (tgt := 36) (dX8_chains.at 39 rfl) (by decide) ?_
      exact hv

set_option maxHeartbeats 2000000 in
set_option maxRecDepth 20000 in
theorem g_X8_chains_0n {G : GG} {j nw nx gn : Nat} {g : Nat → Sh} {c : Nat → Nat → Int} {post : Option AV → AM → Prop} {x : Nat} {y : Nat} {P : GD} (hnw : nw = 21 ∨ nw = 35) (hE : EL c nw P) (hV : GV P)  (hv : (-2147483648 ≤ ((x : Nat) : Int) ∧ ((x : Nat) : Int) < 2147483648) ∧ (-2147483648 ≤ ((y : Nat) : Int) ∧ ((y : Nat) : Int) < 2147483648) ∧ ((((decide ((0 ≤ ((x : Nat) : Int) ∧ ((x : Nat) : Int) < (gN P : Int)) ∧ 0 ≤ ((y : Nat) : Int) ∧ ((y : Nat) : Int) < (gN P : Int))) = true) → (x < gN P) ∧ (y < gN P) ∧ ((x < 60) ∧ (SW G (j + 4) mX8_chains 36 [some (vr (0)), some (vi (((x : Nat) : Int))), some (vi (((y : Nat) : Int))), some (vl (((bitsU (pBt P x y) (gN P) : Nat) : Int))), none, some (vi (((x + 1 : Nat) : Int)))] [] (S nw nx g, 78 + gn, (up2 (clW c 60) 20 x 1)) B0 post))) ∧ (((decide ((0 ≤ ((x : Nat) : Int) ∧ ((x : Nat) : Int) < (gN P : Int)) ∧ 0 ≤ ((y : Nat) : Int) ∧ ((y : Nat) : Int) < (gN P : Int))) = false) → post (some (vl ((-2)))) (S nw nx g, 78 + gn, c)))) :
    SW G (j + 4) mX8_chains 0 [some (vr (0)), some (vi (((x : Nat) : Int))), some (vi (((y : Nat) : Int))), none, none, none] [] (S nw nx g, 78 + gn, c) B0 post := by
  refine sw_aload_n (dX8_chains.at 0 rfl) rfl rfl ?_
  refine sw_iload_n (dX8_chains.at 1 rfl) rfl rfl ?_
  refine sw_iload_n (dX8_chains.at 2 rfl) rfl rfl ?_
  refine sw_callV (B' := B0) (As := [vi (((x : Nat) : Int)), vi (((y : Nat) : Int))]) (mc := 0) (ms := 0) (dX8_chains.at 3 rfl) lk_X8_157 (S_lt 0 (by decide)) (S_0 nw nx g) rfl rfl (Nat.le_of_ble_eq_true rfl) rfl (Nat.le_refl _) (Nat.le_refl _) ?_
  refine c_X8_arePair (x := ((x : Nat) : Int)) (y := ((y : Nat) : Int)) (j := j + 2) hnw hE hV hv.1 hv.2.1 ?_
  replace hv := hv.2.2
  refine sw_if_ne (tgt := 13) (dX8_chains.at 4 rfl) (by decide) (bz_rng _) (fun q => ?_) (fun q => ?_)
  · replace hv := hv.1 (bz_1 q)
    refine sw_aload_n (dX8_chains.at 7 rfl) rfl rfl ?_
    refine sw_iload_n (dX8_chains.at 8 rfl) rfl rfl ?_
    refine sw_iload_n (dX8_chains.at 9 rfl) rfl rfl ?_
    refine sw_callV (B' := B0) (As := [vi (((x : Nat) : Int)), vi (((y : Nat) : Int))]) (mc := 0) (ms := 0) (dX8_chains.at 10 rfl) lk_X8_182 (S_lt 0 (by decide)) (S_0 nw nx g) rfl rfl (Nat.le_of_ble_eq_true rfl) rfl (Nat.le_refl _) (Nat.le_refl _) ?_
    refine c_X8_between (x := x) (y := y) (j := j + 1) hnw hE hV hv.1 hv.2.1 ?_
    replace hv := hv.2.2
    refine sw_lstore_n (lo' := [some (vr (0)), some (vi (((x : Nat) : Int))), some (vi (((y : Nat) : Int))), some (vl (((bitsU (pBt P x y) (gN P) : Nat) : Int))), none, none]) (dX8_chains.at 11 rfl) rfl (by decide) rfl ?_
    refine sw_aload_n (dX8_chains.at 12 rfl) rfl rfl ?_
    refine sw_callV (B' := B0) (As := []) (mc := 0) (ms := 0) (dX8_chains.at 13 rfl) lk_X8_189 (S_lt 0 (by decide)) (S_0 nw nx g) rfl rfl (Nat.le_of_ble_eq_true rfl) rfl (Nat.le_refl _) (Nat.le_refl _) ?_
    refine c_X8_clearWays  (j := j + 3)  ?_
    refine sw_aload_n (dX8_chains.at 14 rfl) rfl rfl ?_
    refine sw_getR (dX8_chains.at 15 rfl) fp_X8_58 (S_lt 0 (by decide)) (S_0 nw nx g) rfl rfl ?_
    refine sw_iload_n (dX8_chains.at 16 rfl) rfl rfl ?_
    refine sw_lconst (z := 1) (dX8_chains.at 17 rfl) (by decide) ?_
    refine sw_lastN x (dX8_chains.at 18 rfl) (S_lt 20 (by decide)) (S_20 nw nx g) (by decide) hv.1 ?_
    replace hv := hv.2
    refine sw_iload_n (dX8_chains.at 19 rfl) rfl rfl ?_
    refine sw_iconst (dX8_chains.at 20 rfl) ?_
    refine sw_iadd (dX8_chains.at 21 rfl) ?_
    refine sw_topI (y := ((x + 1 : Nat) : Int)) (by first | rfl | (congr 1)) ?_
    refine sw_istore (lo' := [some (vr (0)), some (vi (((x : Nat) : Int))), some (vi (((y : Nat) : Int))), some (vl (((bitsU (pBt P x y) (gN P) : Nat) : Int))), none, some (vi (((x + 1 : Nat) : Int)))]) (dX8_chains.at 22 rfl) (by decide) rfl ?_
    exact hv
  · replace hv := hv.2 (bz_n1 q)
    refine sw_ldc2 (z := (-2)) (dX8_chains.at 5 rfl) kc_X8_147 (by decide) ?_
    exact sw_lret (dX8_chains.at 6 rfl) rfl (Nat.le_refl _) (Nat.le_refl _) hv

set_option maxHeartbeats 2000000 in
set_option maxRecDepth 20000 in
theorem g_X8_chains_0 {G : GG} {j nw nx gn : Nat} {g : Nat → Sh} {c : Nat → Nat → Int} {post : Option AV → AM → Prop} {x : Int} {y : Int} {P : GD} (hnw : nw = 21 ∨ nw = 35) (hE : EL c nw P) (hV : GV P)  (hv : (-2147483648 ≤ x ∧ x < 2147483648) ∧ (-2147483648 ≤ y ∧ y < 2147483648) ∧ ((((decide ((0 ≤ x ∧ x < (gN P : Int)) ∧ 0 ≤ y ∧ y < (gN P : Int))) = true) → SW G (j + 4) mX8_chains 16 [some (vr (0)), some (vi (x)), some (vi (y)), none, none, none] [vi (y), vi (x), vr (0)] (S nw nx g, 78 + gn, c) B0 post) ∧ (((decide ((0 ≤ x ∧ x < (gN P : Int)) ∧ 0 ≤ y ∧ y < (gN P : Int))) = false) → post (some (vl ((-2)))) (S nw nx g, 78 + gn, c)))) :
    SW G (j + 4) mX8_chains 0 [some (vr (0)), some (vi (x)), some (vi (y)), none, none, none] [] (S nw nx g, 78 + gn, c) B0 post := by
  refine sw_aload_n (dX8_chains.at 0 rfl) rfl rfl ?_
  refine sw_iload_n (dX8_chains.at 1 rfl) rfl rfl ?_
  refine sw_iload_n (dX8_chains.at 2 rfl) rfl rfl ?_
  refine sw_callV (B' := B0) (As := [vi (x), vi (y)]) (mc := 0) (ms := 0) (dX8_chains.at 3 rfl) lk_X8_157 (S_lt 0 (by decide)) (S_0 nw nx g) rfl rfl (Nat.le_of_ble_eq_true rfl) rfl (Nat.le_refl _) (Nat.le_refl _) ?_
  refine c_X8_arePair (x := x) (y := y) (j := j + 2) hnw hE hV hv.1 hv.2.1 ?_
  replace hv := hv.2.2
  refine sw_if_ne (tgt := 13) (dX8_chains.at 4 rfl) (by decide) (bz_rng _) (fun q => ?_) (fun q => ?_)
  · replace hv := hv.1 (bz_1 q)
    refine sw_aload_n (dX8_chains.at 7 rfl) rfl rfl ?_
    refine sw_iload_n (dX8_chains.at 8 rfl) rfl rfl ?_
    refine sw_iload_n (dX8_chains.at 9 rfl) rfl rfl ?_
    exact hv
  · replace hv := hv.2 (bz_n1 q)
    refine sw_ldc2 (z := (-2)) (dX8_chains.at 5 rfl) kc_X8_147 (by decide) ?_
    exact sw_lret (dX8_chains.at 6 rfl) rfl (Nat.le_refl _) (Nat.le_refl _) hv

def q_chains (P : GD) (x y : Int) : Int := if (0 ≤ x ∧ x < (gN P : Int)) ∧ 0 ≤ y ∧ y < (gN P : Int) then chF P (bitsU (pBt P x.toNat y.toNat) (gN P)) x.toNat (y.toNat - x.toNat) y.toNat else -2
set_option maxHeartbeats 2000000 in
theorem lp_X8_chains_36 {G : GG} {j nw nx gn : Nat} {g : Nat → Sh} {c : Nat → Nat → Int} {post : Option AV → AM → Prop} {P : GD} {x y T : Nat} (hnw : nw = 21 ∨ nw = 35) (hE : EL c nw P) (hV : GV P) (hx : x < gN P) (hy : y < gN P) (hT : T < 2 ^ 60) (K : ∀ c2 : Nat → Nat → Int, (∀ a, a ≠ 20 → c2 a = c a) → c2 20 y = chF P T x (y - x) y → post (some (vl (c2 20 y))) (S nw nx g, 78 + gn, c2)) :
    ∀ k d : Nat, d + k = y - x → SW G (j + 4) mX8_chains 36 [some (vr (0)), some (vi (((x : Nat) : Int))), some (vi (((y : Nat) : Int))), some (vl (((T : Nat) : Int))), none, some (vi (((x + 1 + d : Nat) : Int)))] [] (S nw nx g, 78 + gn, chM P c T x d) B0 post := by
  have h60 := GV_N hV
  have h63 := lt63 hT
  have hEd : ∀ d, EL (chM P c T x d) nw P := fun d => EL_same hE (fun q hq => chM_off P c T x d (nw + q) (by omega))
  intro k
  induction k with
  | zero =>
    intro d hd
    refine g_X8_chains_36 hnw (hEd d) hV ?_
    have e : d = y - x := by omega
    have K2 := K (chM P c T x d) (fun a ha => chM_off P c T x d a ha) (by rw [chM_in P c T x (by omega) d (by omega) y (by omega), e])
    refine ⟨?_, ?_, ⟨fun q => ⟨?_, ?_⟩, fun q => ⟨?_, ?_, ⟨fun q => ?_, fun q => ⟨?_, ?_, ⟨?_, ?_⟩⟩⟩⟩⟩⟩
    all_goals first | exact K2 | omega | (exfalso; omega)
  | succ k ih =>
    intro d hd
    refine g_X8_chains_36 hnw (hEd d) hV ?_
    have h := ih (d + 1) (by omega)
    rw [chM] at h
    refine ⟨?_, ?_, ⟨fun q => ⟨?_, ?_⟩, fun q => ⟨?_, ?_, ⟨fun q => ?_, fun q => ⟨?_, ?_, ⟨?_, ?_⟩⟩⟩⟩⟩⟩
    all_goals first | omega | (exfalso; omega) | (rw [if_pos q] at h; exact h) | (rw [if_neg (by rw [q]; decide)] at h; exact h)

set_option maxHeartbeats 4000000 in
theorem c_X8_chains {G : GG} {j nw nx gn : Nat} {g : Nat → Sh} {c : Nat → Nat → Int} {post : Option AV → AM → Prop} {P : GD} {x y : Int} (hnw : nw = 21 ∨ nw = 35) (hE : EL c nw P) (hV : GV P) (p1 : -2147483648 ≤ x ∧ x < 2147483648) (p2 : -2147483648 ≤ y ∧ y < 2147483648) (K : ∀ c2 : Nat → Nat → Int, (∀ a, a ≠ 20 → c2 a = c a) → post (some (vl (q_chains P x y))) (S nw nx g, 78 + gn, c2)) : SM G (j + 5) mX8_chains [vr 0, vi x, vi y] (S nw nx g, 78 + gn, c) 0 0 post := by
  refine sm_of wX8_chains rfl (Nat.le_of_ble_eq_true rfl) ?_
  have hN60 := GV_N hV
  by_cases hv : (0 ≤ x ∧ x < (gN P : Int)) ∧ 0 ≤ y ∧ y < (gN P : Int)
  · obtain ⟨x, rfl⟩ : ∃ n : Nat, x = (n : Int) := ⟨x.toNat, by omega⟩
    obtain ⟨y, rfl⟩ : ∃ n : Nat, y = (n : Int) := ⟨y.toNat, by omega⟩
    have hx : x < gN P := by omega
    have hy : y < gN P := by omega
    rw [q_chains, if_pos hv] at K
    simp only [Int.toNat_natCast] at K
    refine g_X8_chains_0n hnw hE hV ?_
    refine ⟨?_, ?_, ⟨fun q => ⟨?_, ?_, ⟨?_, ?_⟩⟩, fun q => ?_⟩⟩
    all_goals first | omega | assumption | (exfalso; simp only [decide_eq_true_eq, decide_eq_false_iff_not] at *; omega) | exact lp_X8_chains_36 hnw hE hV hx hy (bitsU_63 hN60) (fun c2 h1 h2 => by rw [h2]; exact K c2 h1) (y - x) 0 (by omega)
  · rw [q_chains, if_neg hv] at K
    have K := K c (fun _ _ => rfl)
    refine g_X8_chains_0 hnw hE hV ?_
    refine ⟨?_, ?_, ⟨fun q => ?_, fun q => ?_⟩⟩
    all_goals first | exact K | omega | assumption | (exfalso; simp only [decide_eq_true_eq, decide_eq_false_iff_not] at *; omega)

