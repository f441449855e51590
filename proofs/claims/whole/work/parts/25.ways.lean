def clW (c : Nat → Nat → Int) : Nat → Nat → Nat → Int
  | 0 => c
  | n + 1 => up2 (clW c n) 20 n 0
theorem clW_off (c : Nat → Nat → Int) : ∀ n a, a ≠ 20 → clW c n a = c a := by
  intro n
  induction n with
  | zero => intro a _; rfl
  | succ n ih => intro a h; rw [clW, up2_off h]; exact ih a h
theorem clW_in (c : Nat → Nat → Int) : ∀ n i, i < n → clW c n 20 i = 0 := by
  intro n
  induction n with
  | zero => intro i h; omega
  | succ n ih =>
    intro i h
    rw [clW]
    by_cases e : i = n
    · subst e; exact up2_eq _ _ _ _
    · rw [up2_ne (Or.inr e)]; exact ih i (by omega)
set_option maxHeartbeats 2000000 in
set_option maxRecDepth 20000 in
theorem g_X8_clearWays_2 {G : GG} {j nw nx gn : Nat} {g : Nat → Sh} {c : Nat → Nat → Int} {post : Option AV → AM → Prop} {x : Nat}  (hv : (x < 2147483648) ∧ (((60 ≤ x) → post none (S nw nx g, 78 + gn, c)) ∧ ((¬ (60 ≤ x)) → (x < 60) ∧ (SW G (j + 0) mX8_clearWays 2 [some (vr (0)), some (vi (((x + 1 : Nat) : Int)))] [] (S nw nx g, 78 + gn, (up2 c 20 x 0)) B0 post)))) :
    SW G (j + 0) mX8_clearWays 2 [some (vr (0)), some (vi (((x : Nat) : Int)))] [] (S nw nx g, 78 + gn, c) B0 post := by
  refine sw_iload_n (dX8_clearWays.at 2 rfl) rfl rfl ?_
  refine sw_bipush (dX8_clearWays.at 3 rfl) (by decide) ?_
  refine sw_icmpN_ge x 60 (tgt := 21) (dX8_clearWays.at 4 rfl) (by decide) hv.1 (by decide) (fun q => ?_) (fun q => ?_)
  · replace hv := hv.2.1 q
    exact sw_vret (dX8_clearWays.at 12 rfl) rfl (Nat.le_refl _) (Nat.le_refl _) hv
  · replace hv := hv.2.2 q
    refine sw_aload_n (dX8_clearWays.at 5 rfl) rfl rfl ?_
    refine sw_getR (dX8_clearWays.at 6 rfl) fp_X8_58 (S_lt 0 (by decide)) (S_0 nw nx g) rfl rfl ?_
    refine sw_iload_n (dX8_clearWays.at 7 rfl) rfl rfl ?_
    refine sw_lconst (z := 0) (dX8_clearWays.at 8 rfl) (by decide) ?_
    refine sw_lastN x (dX8_clearWays.at 9 rfl) (S_lt 20 (by decide)) (S_20 nw nx g) (by decide) hv.1 ?_
    replace hv := hv.2
    refine sw_iinc (lo' := [some (vr (0)), some (vi (((x + 1 : Nat) : Int)))]) (dX8_clearWays.at 10 rfl) rfl (by decide) rfl ?_
    refine sw_goto (tgt := 2) (dX8_clearWays.at 11 rfl) (by decide) ?_
    exact hv

set_option maxHeartbeats 2000000 in
theorem lp_X8_clearWays_2 {G : GG} {j nw nx gn : Nat} {g : Nat → Sh} {c : Nat → Nat → Int} {post : Option AV → AM → Prop} (K : post none (S nw nx g, 78 + gn, clW c 60)) : ∀ k x : Nat, x + k = 60 → SW G (j + 0) mX8_clearWays 2 [some (vr (0)), some (vi (((x : Nat) : Int)))] [] (S nw nx g, 78 + gn, clW c x) B0 post := by
  intro k
  induction k with
  | zero =>
    intro x hx
    have e : x = 60 := by omega
    subst e
    refine g_X8_clearWays_2 ?_
    refine ⟨?_, ⟨fun q => ?_, fun q => ⟨?_, ?_⟩⟩⟩
    all_goals first | exact K | omega | (exfalso; omega)
  | succ k ih =>
    intro x hx
    refine g_X8_clearWays_2 ?_
    have h := ih (x + 1) (by omega)
    rw [clW] at h
    refine ⟨?_, ⟨fun q => ?_, fun q => ⟨?_, ?_⟩⟩⟩
    all_goals first | exact h | omega | (exfalso; omega)

set_option maxHeartbeats 2000000 in
set_option maxRecDepth 20000 in
theorem g_X8_clearWays_0 {G : GG} {j nw nx gn : Nat} {g : Nat → Sh} {c : Nat → Nat → Int} {post : Option AV → AM → Prop}  (hv : SW G (j + 0) mX8_clearWays 2 [some (vr (0)), some (vi (0))] [] (S nw nx g, 78 + gn, c) B0 post) :
    SW G (j + 0) mX8_clearWays 0 [some (vr (0)), none] [] (S nw nx g, 78 + gn, c) B0 post := by
  refine sw_iconst (dX8_clearWays.at 0 rfl) ?_
  refine sw_istore_n (lo' := [some (vr (0)), some (vi (0))]) (dX8_clearWays.at 1 rfl) rfl (by decide) rfl ?_
  exact hv

set_option maxHeartbeats 2000000 in
theorem c_X8_clearWays {G : GG} {j nw nx gn : Nat} {g : Nat → Sh} {c : Nat → Nat → Int} {post : Option AV → AM → Prop} (K : post none (S nw nx g, 78 + gn, (clW c 60))) : SM G (j + 1) mX8_clearWays [vr (0)] (S nw nx g, 78 + gn, c) 0 0 post := by
  refine sm_of wX8_clearWays rfl (Nat.le_of_ble_eq_true rfl) ?_
  refine g_X8_clearWays_0  ?_
  exact lp_X8_clearWays_2 K 60 0 (by omega)

def sCov (P : GD) (T : Nat) (f : Nat → Int) (x : Nat) : Nat → Int
  | 0 => 0
  | t + 1 => if T.testBit t && gCov P t x then sCov P T f x t + f t else sCov P T f x t
def sMir (P : GD) (f : Nat → Int) (x : Nat) : Nat → Int
  | 0 => 0
  | i + 1 => if gL P (gX P x (gT P i)) < gL P x then sMir P f x i + f (gX P x (gT P i)) else sMir P f x i
