theorem gAll_lt {P : GD} (hV : GV P) {T s : Nat} (hs : s < gR P) : ∀ n, n ≤ gN P → gAll P T s n < 2 ^ 60 := by
  intro n
  induction n with
  | zero => intro _; exact Nat.lt_of_lt_of_le Nat.zero_lt_one (by decide)
  | succ n ih =>
    intro h
    unfold gAll
    have i1 := ih (by omega)
    split
    · refine Nat.or_lt_two_pow i1 ?_
      have h2 := hV.2.2.2.1 n s (by omega) hs
      have h3 := GV_N hV
      rw [Nat.one_mul]
      exact Nat.pow_lt_pow_right (by decide) (by omega)
    · exact i1
set_option maxHeartbeats 2000000 in
set_option maxRecDepth 20000 in
theorem g_X1_allBy_6 {G : GG} {j nw nx gn : Nat} {g : Nat → Sh} {c : Nat → Nat → Int} {post : Option AV → AM → Prop} {e : Nat} {T : Nat} {s : Nat} (he : e = 21 ∨ e = 35) {P : GD} {x : Nat} (hE : EL c e P) (hV : GV P)  (hv : (x < 2147483648) ∧ (gN P < 2147483648) ∧ (((gN P ≤ x) → post (some (vl (((gAll P T s x : Nat) : Int)))) (S nw nx g, 78 + gn, c)) ∧ ((¬ (gN P ≤ x)) → (T < 9223372036854775808) ∧ (x < 64) ∧ ((((T.testBit x) = false) → SW G (j + 1) mX1_allBy 6 [some (vr (e)), some (vl (((T : Nat) : Int))), none, some (vi (((s : Nat) : Int))), some (vl (((gAll P T s x : Nat) : Int))), none, some (vi (((x + 1 : Nat) : Int)))] [] (S nw nx g, 78 + gn, c) B0 post) ∧ (((T.testBit x) = true) → (x < gN P) ∧ (s < gR P) ∧ ((gS P x s < 64) ∧ (SW G (j + 1) mX1_allBy 6 [some (vr (e)), some (vl (((T : Nat) : Int))), none, some (vi (((s : Nat) : Int))), some (vl ((((gAll P T s x) ||| (1 * 2 ^ (gS P x s)) : Nat) : Int))), none, some (vi (((x + 1 : Nat) : Int)))] [] (S nw nx g, 78 + gn, c) B0 post))))))) :
    SW G (j + 1) mX1_allBy 6 [some (vr (e)), some (vl (((T : Nat) : Int))), none, some (vi (((s : Nat) : Int))), some (vl (((gAll P T s x : Nat) : Int))), none, some (vi (((x : Nat) : Int)))] [] (S nw nx g, 78 + gn, c) B0 post := by
  refine sw_iload (dX1_allBy.at 4 rfl) rfl ?_
  refine sw_aload_n (dX1_allBy.at 5 rfl) rfl rfl ?_
  refine sw_getIE (w := ((gN P : Nat) : Int)) (dX1_allBy.at 6 rfl) fp_X1_59 (S_e_lt he) (S_e he) rfl (EL_N hE) ?_
  refine sw_icmpN_ge x (gN P) (tgt := 44) (dX1_allBy.at 7 rfl) (by decide) hv.1 hv.2.1 (fun q => ?_) (fun q => ?_)
  · replace hv := hv.2.2.1 q
    refine sw_lload (dX1_allBy.at 23 rfl) rfl ?_
    exact sw_lret (dX1_allBy.at 24 rfl) rfl (Nat.le_refl _) (Nat.le_refl _) hv
  · replace hv := hv.2.2.2 q
    refine sw_lload_n (dX1_allBy.at 8 rfl) rfl rfl ?_
    refine sw_iload (dX1_allBy.at 9 rfl) rfl ?_
    refine sw_callN (B' := B0) (As := [vl (((T : Nat) : Int)), vi (((x : Nat) : Int))]) (mc := 0) (ms := 0) (dX1_allBy.at 10 rfl) lk_X1_113 rfl rfl (Nat.le_of_ble_eq_true rfl) rfl (Nat.le_refl _) (Nat.le_refl _) ?_
    refine c_X8_hasBit (s := T) (i := x) (j := j + 0) hv.1 hv.2.1 ?_
    replace hv := hv.2.2
    refine sw_if_eq (tgt := 38) (dX1_allBy.at 11 rfl) (by decide) (bz_rng _) (fun q => ?_) (fun q => ?_)
    · replace hv := hv.1 (bz_0 q)
      refine sw_iinc (lo' := [some (vr (e)), some (vl (((T : Nat) : Int))), none, some (vi (((s : Nat) : Int))), some (vl (((gAll P T s x : Nat) : Int))), none, some (vi (((x + 1 : Nat) : Int)))]) (dX1_allBy.at 21 rfl) rfl (by decide) rfl ?_
      refine sw_goto (tgt := 6) (dX1_allBy.at 22 rfl) (by decide) ?_
      exact hv
    · replace hv := hv.2 (bz_n0 q)
      refine sw_lload (dX1_allBy.at 12 rfl) rfl ?_
      refine sw_lconst (z := 1) (dX1_allBy.at 13 rfl) (by decide) ?_
      refine sw_aload_n (dX1_allBy.at 14 rfl) rfl rfl ?_
      refine sw_iload (dX1_allBy.at 15 rfl) rfl ?_
      refine sw_iload_n (dX1_allBy.at 16 rfl) rfl rfl ?_
      refine sw_callV (B' := B0) (As := [vi (((x : Nat) : Int)), vi (((s : Nat) : Int))]) (mc := 0) (ms := 0) (dX1_allBy.at 17 rfl) lk_X1_92 (S_e_lt he) (S_e he) rfl rfl (Nat.le_of_ble_eq_true rfl) rfl (Nat.le_refl _) (Nat.le_refl _) ?_
      refine c_X1_byP (e := e) (x := x) (s := s) (j := j + 0) he hE hV hv.1 hv.2.1 ?_
      replace hv := hv.2.2
      refine sw_lshlN 1 (gS P x s) (dX1_allBy.at 18 rfl) hv.1 ?_
      replace hv := hv.2
      refine sw_lorN (gAll P T s x) (1 * 2 ^ (gS P x s)) (dX1_allBy.at 19 rfl) ?_
      refine sw_lstore (lo' := [some (vr (e)), some (vl (((T : Nat) : Int))), none, some (vi (((s : Nat) : Int))), some (vl ((((gAll P T s x) ||| (1 * 2 ^ (gS P x s)) : Nat) : Int))), none, some (vi (((x : Nat) : Int)))]) (dX1_allBy.at 20 rfl) (by decide) rfl ?_
      refine sw_iinc (lo' := [some (vr (e)), some (vl (((T : Nat) : Int))), none, some (vi (((s : Nat) : Int))), some (vl ((((gAll P T s x) ||| (1 * 2 ^ (gS P x s)) : Nat) : Int))), none, some (vi (((x + 1 : Nat) : Int)))]) (dX1_allBy.at 21 rfl) rfl (by decide) rfl ?_
      refine sw_goto (tgt := 6) (dX1_allBy.at 22 rfl) (by decide) ?_
      exact hv

set_option maxHeartbeats 2000000 in
theorem lp_X1_allBy_6 {G : GG} {j nw nx gn : Nat} {g : Nat → Sh} {c : Nat → Nat → Int} {post : Option AV → AM → Prop} {P : GD} {e : Nat} {T : Nat} {s : Nat} (he : e = 21 ∨ e = 35) (hE : EL c e P) (hV : GV P) (hs : s < gR P) (hT : T < 2 ^ 60) (K : post (some (vl (((gAll P T s (gN P) : Nat) : Int)))) (S nw nx g, 78 + gn, c)) : ∀ k x : Nat, x + k = gN P → SW G (j + 1) mX1_allBy 6 [some (vr (e)), some (vl (((T : Nat) : Int))), none, some (vi (((s : Nat) : Int))), some (vl (((gAll P T s x : Nat) : Int))), none, some (vi (((x : Nat) : Int)))] [] (S nw nx g, 78 + gn, c) B0 post := by
  intro k
  induction k with
  | zero =>
    intro x hx
    refine g_X1_allBy_6 he hE hV ?_
    have := GV_N hV
    have hx2 : x = gN P := by omega
    subst hx2
    repeat' (first | apply And.intro | intro)
    all_goals first | exact K | omega | (exfalso; omega)
  | succ k ih =>
    intro x hx
    refine g_X1_allBy_6 he hE hV ?_
    have := GV_N hV
    have hi := ih (x + 1) (by omega)
    have h6 := lt63 hT
    have h7 := hV.2.2.2.1 x s (by omega) hs
    simp only [gAll] at hi
    refine ⟨by omega, by omega, fun q => absurd q (by omega), fun q => ⟨h6, by omega, fun hb => ?_, fun hb => ⟨by omega, hs, by omega, ?_⟩⟩⟩
    · simp only [hb] at hi; exact hi
    · simp only [hb] at hi; exact hi

set_option maxHeartbeats 2000000 in
set_option maxRecDepth 20000 in
theorem g_X1_allBy_0 {G : GG} {j nw nx gn : Nat} {g : Nat → Sh} {c : Nat → Nat → Int} {post : Option AV → AM → Prop} {e : Nat} {T : Nat} {s : Nat} (he : e = 21 ∨ e = 35)  (hv : SW G (j + 1) mX1_allBy 6 [some (vr (e)), some (vl (((T : Nat) : Int))), none, some (vi (((s : Nat) : Int))), some (vl (0)), none, some (vi (0))] [] (S nw nx g, 78 + gn, c) B0 post) :
    SW G (j + 1) mX1_allBy 0 [some (vr (e)), some (vl (((T : Nat) : Int))), none, some (vi (((s : Nat) : Int))), none, none, none] [] (S nw nx g, 78 + gn, c) B0 post := by
  refine sw_lconst (z := 0) (dX1_allBy.at 0 rfl) (by decide) ?_
  refine sw_lstore (lo' := [some (vr (e)), some (vl (((T : Nat) : Int))), none, some (vi (((s : Nat) : Int))), some (vl (0)), none, none]) (dX1_allBy.at 1 rfl) (by decide) rfl ?_
  refine sw_iconst (dX1_allBy.at 2 rfl) ?_
  refine sw_istore (lo' := [some (vr (e)), some (vl (((T : Nat) : Int))), none, some (vi (((s : Nat) : Int))), some (vl (0)), none, some (vi (0))]) (dX1_allBy.at 3 rfl) (by decide) rfl ?_
  exact hv

set_option maxHeartbeats 2000000 in
theorem c_X1_allBy {G : GG} {j nw nx gn : Nat} {g : Nat → Sh} {c : Nat → Nat → Int} {post : Option AV → AM → Prop} {P : GD} {e : Nat} {T : Nat} {s : Nat} (he : e = 21 ∨ e = 35) (hE : EL c e P) (hV : GV P) (p1 : s < gR P) (p2 : T < 2 ^ 60) (K : post (some (vl (((gAll P T s (gN P) : Nat) : Int)))) (S nw nx g, 78 + gn, c)) : SM G (j + 2) mX1_allBy [vr (e), vl (((T : Nat) : Int)), vi (((s : Nat) : Int))] (S nw nx g, 78 + gn, c) 0 0 post := by
  refine sm_of wX1_allBy rfl (Nat.le_of_ble_eq_true rfl) ?_
  refine g_X1_allBy_0 he ?_
  exact lp_X1_allBy_6 he hE hV p1 p2 K (gN P) 0 (by omega)

/-- n times the head -/
def gUp (P : GD) (x : Nat) : Nat → Nat
  | 0 => x
  | n + 1 => gH P (gUp P x n)
def gLet (P : GD) (x i : Nat) : Nat := gA P (gUp P x (gL P x - 1 - i))
theorem gUp_lt {P : GD} (hV : GV P) {x : Nat} (hx : x < gN P) : ∀ n, gUp P x n < gN P := by
  intro n
  induction n with
  | zero => exact hx
  | succ n ih => exact (hV.2.2.1 _ ih).2.1
set_option maxHeartbeats 2000000 in
set_option maxRecDepth 20000 in
theorem g_X1_letterOf_12 {G : GG} {j nw nx gn : Nat} {g : Nat → Sh} {c : Nat → Nat → Int} {post : Option AV → AM → Prop} {e : Nat} {x : Nat} {i : Nat} (he : e = 21 ∨ e = 35) {P : GD} {k : Nat} (hE : EL c e P) (hV : GV P)  (hv : (-2147483648 ≤ (gL P x : Int) - 1 - (k : Int) ∧ (gL P x : Int) - 1 - (k : Int) < 2147483648) ∧ (i < 2147483648) ∧ ((((gL P x : Int) - 1 - (k : Int) ≤ ((i : Nat) : Int)) → (gUp P x k < gN P) ∧ (post (some (vi (((gA P (gUp P x k) : Nat) : Int)))) (S nw nx g, 78 + gn, c))) ∧ ((¬ ((gL P x : Int) - 1 - (k : Int) ≤ ((i : Nat) : Int))) → (gUp P x k < gN P) ∧ (SW G (j + 0) mX1_letterOf 12 [some (vr (e)), some (vi (((x : Nat) : Int))), some (vi (((i : Nat) : Int))), some (vi (((gH P (gUp P x k) : Nat) : Int))), some (vi ((gL P x : Int) - 1 - (k : Int) + (-1)))] [] (S nw nx g, 78 + gn, c) B0 post)))) :
    SW G (j + 0) mX1_letterOf 12 [some (vr (e)), some (vi (((x : Nat) : Int))), some (vi (((i : Nat) : Int))), some (vi (((gUp P x k : Nat) : Int))), some (vi ((gL P x : Int) - 1 - (k : Int)))] [] (S nw nx g, 78 + gn, c) B0 post := by
  refine sw_iload (dX1_letterOf.at 9 rfl) rfl ?_
  refine sw_iload_n (dX1_letterOf.at 10 rfl) rfl rfl ?_
  refine sw_icmp_le (tgt := 31) (dX1_letterOf.at 11 rfl) (by decide) hv.1 (nrng hv.2.1) (fun q => ?_) (fun q => ?_)
  · replace hv := hv.2.2.1 q
    refine sw_aload_n (dX1_letterOf.at 19 rfl) rfl rfl ?_
    refine sw_getR (dX1_letterOf.at 20 rfl) fp_X1_21 (S_e_lt he) (S_e he) rfl rfl ?_
    refine sw_iload_n (dX1_letterOf.at 21 rfl) rfl rfl ?_
    refine sw_ialdN (gUp P x k) (w := ((gA P (gUp P x k) : Nat) : Int)) (dX1_letterOf.at 22 rfl) (S_ek_lt he (by decide)) (S_e_4 he) (by decide) (GV_lt hV hv.1) (EL_A hE hv.1) ?_
    replace hv := hv.2
    exact sw_iret (dX1_letterOf.at 23 rfl) rfl (Nat.le_refl _) (Nat.le_refl _) hv
  · replace hv := hv.2.2.2 q
    refine sw_aload_n (dX1_letterOf.at 12 rfl) rfl rfl ?_
    refine sw_getR (dX1_letterOf.at 13 rfl) fp_X1_18 (S_e_lt he) (S_e he) rfl rfl ?_
    refine sw_iload_n (dX1_letterOf.at 14 rfl) rfl rfl ?_
    refine sw_ialdN (gUp P x k) (w := ((gH P (gUp P x k) : Nat) : Int)) (dX1_letterOf.at 15 rfl) (S_ek_lt he (by decide)) (S_e_3 he) (by decide) (GV_lt hV hv.1) (EL_H hE hv.1) ?_
    replace hv := hv.2
    refine sw_istore_n (lo' := [some (vr (e)), some (vi (((x : Nat) : Int))), some (vi (((i : Nat) : Int))), some (vi (((gH P (gUp P x k) : Nat) : Int))), some (vi ((gL P x : Int) - 1 - (k : Int)))]) (dX1_letterOf.at 16 rfl) rfl (by decide) rfl ?_
    refine sw_iinc (lo' := [some (vr (e)), some (vi (((x : Nat) : Int))), some (vi (((i : Nat) : Int))), some (vi (((gH P (gUp P x k) : Nat) : Int))), some (vi ((gL P x : Int) - 1 - (k : Int) + (-1)))]) (dX1_letterOf.at 17 rfl) rfl (by decide) rfl ?_
    refine sw_goto (tgt := 12) (dX1_letterOf.at 18 rfl) (by decide) ?_
    exact hv

set_option maxHeartbeats 2000000 in
theorem lp_X1_letterOf_12 {G : GG} {j nw nx gn : Nat} {g : Nat → Sh} {c : Nat → Nat → Int} {post : Option AV → AM → Prop} {P : GD} {e : Nat} {x : Nat} {i : Nat} (he : e = 21 ∨ e = 35) (hE : EL c e P) (hV : GV P) (hx : x < gN P) (hi : i < gL P x) (K : post (some (vi (((gLet P x i : Nat) : Int)))) (S nw nx g, 78 + gn, c)) :
    ∀ d k : Nat, k + d = gL P x - 1 - i → SW G (j + 0) mX1_letterOf 12 [some (vr (e)), some (vi (((x : Nat) : Int))), some (vi (((i : Nat) : Int))), some (vi (((gUp P x k : Nat) : Int))), some (vi ((gL P x : Int) - 1 - (k : Int)))] [] (S nw nx g, 78 + gn, c) B0 post := by
  intro d
  have hl := (hV.2.2.1 x hx).1
  induction d with
  | zero =>
    intro k hk
    refine g_X1_letterOf_12 he hE hV ?_
    have e1 : k = gL P x - 1 - i := by omega
    refine ⟨by omega, by omega, fun q => ⟨gUp_lt hV hx k, ?_⟩, fun q => absurd (by omega) q⟩
    rw [gLet, ← e1] at K
    exact K
  | succ d ih =>
    intro k hk
    refine g_X1_letterOf_12 he hE hV ?_
    refine ⟨by omega, by omega, fun q => absurd q (by omega), fun q => ⟨gUp_lt hV hx k, ?_⟩⟩
    have h := ih (k + 1) (by omega)
    have e1 : (gL P x : Int) - 1 - ((k + 1 : Nat) : Int) = (gL P x : Int) - 1 - (k : Int) + (-1) := by omega
    rw [e1] at h
    exact h

set_option maxHeartbeats 2000000 in
set_option maxRecDepth 20000 in
theorem g_X1_letterOf_0 {G : GG} {j nw nx gn : Nat} {g : Nat → Sh} {c : Nat → Nat → Int} {post : Option AV → AM → Prop} {e : Nat} {x : Nat} {i : Nat} (he : e = 21 ∨ e = 35) {P : GD} (hE : EL c e P) (hV : GV P)  (hv : (x < gN P) ∧ (SW G (j + 0) mX1_letterOf 12 [some (vr (e)), some (vi (((x : Nat) : Int))), some (vi (((i : Nat) : Int))), some (vi (((x : Nat) : Int))), some (vi (((gL P x : Nat) : Int) - 1))] [] (S nw nx g, 78 + gn, c) B0 post)) :
    SW G (j + 0) mX1_letterOf 0 [some (vr (e)), some (vi (((x : Nat) : Int))), some (vi (((i : Nat) : Int))), none, none] [] (S nw nx g, 78 + gn, c) B0 post := by
  refine sw_iload_n (dX1_letterOf.at 0 rfl) rfl rfl ?_
  refine sw_istore_n (lo' := [some (vr (e)), some (vi (((x : Nat) : Int))), some (vi (((i : Nat) : Int))), some (vi (((x : Nat) : Int))), none]) (dX1_letterOf.at 1 rfl) rfl (by decide) rfl ?_
  refine sw_aload_n (dX1_letterOf.at 2 rfl) rfl rfl ?_
  refine sw_getR (dX1_letterOf.at 3 rfl) fp_X1_15 (S_e_lt he) (S_e he) rfl rfl ?_
  refine sw_iload_n (dX1_letterOf.at 4 rfl) rfl rfl ?_
  refine sw_ialdN x (w := ((gL P x : Nat) : Int)) (dX1_letterOf.at 5 rfl) (S_ek_lt he (by decide)) (S_e_2 he) (by decide) (GV_lt hV hv.1) (EL_L hE hv.1) ?_
  replace hv := hv.2
  refine sw_iconst (dX1_letterOf.at 6 rfl) ?_
  refine sw_isub (dX1_letterOf.at 7 rfl) ?_
  refine sw_istore (lo' := [some (vr (e)), some (vi (((x : Nat) : Int))), some (vi (((i : Nat) : Int))), some (vi (((x : Nat) : Int))), some (vi (((gL P x : Nat) : Int) - 1))]) (dX1_letterOf.at 8 rfl) (by decide) rfl ?_
  exact hv

set_option maxHeartbeats 2000000 in
theorem c_X1_letterOf {G : GG} {j nw nx gn : Nat} {g : Nat → Sh} {c : Nat → Nat → Int} {post : Option AV → AM → Prop} {P : GD} {e : Nat} {x : Nat} {i : Nat} (he : e = 21 ∨ e = 35) (hE : EL c e P) (hV : GV P) (p1 : x < gN P) (p2 : i < gL P x) (K : post (some (vi (((gLet P x i : Nat) : Int)))) (S nw nx g, 78 + gn, c)) : SM G (j + 1) mX1_letterOf [vr (e), vi (((x : Nat) : Int)), vi (((i : Nat) : Int))] (S nw nx g, 78 + gn, c) 0 0 post := by
  refine sm_of wX1_letterOf rfl (Nat.le_of_ble_eq_true rfl) ?_
  refine g_X1_letterOf_0 he hE hV ?_
  refine ⟨p1, ?_⟩
  have h := lp_X1_letterOf_12 (G := G) (j := j) (nw := nw) (nx := nx) (gn := gn) (g := g) (post := post) he hE hV p1 p2 K (gL P x - 1 - i) 0 (by omega)
  have e1 : (gL P x : Int) - 1 - ((0 : Nat) : Int) = ((gL P x : Nat) : Int) - 1 := by omega
  rw [e1] at h
  exact h

def gRF (P : GD) (x s : Nat) : Nat := if (gF P x).testBit s then gW P (gX P (s + 1) x) else 0
set_option maxHeartbeats 2000000 in
set_option maxRecDepth 20000 in
theorem g_X1_rowsFrom_0 {G : GG} {j nw nx gn : Nat} {g : Nat → Sh} {c : Nat → Nat → Int} {post : Option AV → AM → Prop} {e : Nat} {x : Nat} {s : Nat} (he : e = 21 ∨ e = 35) {P : GD} (hE : EL c e P) (hV : GV P)  (hv : (x < gN P) ∧ ((gF P x < 2147483648) ∧ (((gF P x) < 9223372036854775808) ∧ (s < 64) ∧ (((((gF P x).testBit s) = false) → post (some (vl (0))) (S nw nx g, 78 + gn, c)) ∧ ((((gF P x).testBit s) = true) → ((s + 1) < gN P) ∧ (x < gN P) ∧ ((gX P (s + 1) x < gN P) ∧ (post (some (vl (((gW P (gX P (s + 1) x) : Nat) : Int)))) (S nw nx g, 78 + gn, c)))))))) :
    SW G (j + 1) mX1_rowsFrom 0 [some (vr (e)), some (vi (((x : Nat) : Int))), some (vi (((s : Nat) : Int)))] [] (S nw nx g, 78 + gn, c) B0 post := by
  refine sw_aload_n (dX1_rowsFrom.at 0 rfl) rfl rfl ?_
  refine sw_getR (dX1_rowsFrom.at 1 rfl) fp_X1_33 (S_e_lt he) (S_e he) rfl rfl ?_
  refine sw_iload_n (dX1_rowsFrom.at 2 rfl) rfl rfl ?_
  refine sw_ialdN x (w := ((gF P x : Nat) : Int)) (dX1_rowsFrom.at 3 rfl) (S_ek_lt he (by decide)) (S_e_8 he) (by decide) (GV_lt hV hv.1) (EL_F hE hv.1) ?_
  replace hv := hv.2
  refine sw_i2l (dX1_rowsFrom.at 4 rfl) (nrng hv.1) ?_
  replace hv := hv.2
  refine sw_iload_n (dX1_rowsFrom.at 5 rfl) rfl rfl ?_
  refine sw_callN (B' := B0) (As := [vl (((gF P x : Nat) : Int)), vi (((s : Nat) : Int))]) (mc := 0) (ms := 0) (dX1_rowsFrom.at 6 rfl) lk_X1_113 rfl rfl (Nat.le_of_ble_eq_true rfl) rfl (Nat.le_refl _) (Nat.le_refl _) ?_
  refine c_X8_hasBit (s := (gF P x)) (i := s) (j := j + 0) hv.1 hv.2.1 ?_
  replace hv := hv.2.2
  refine sw_if_eq (tgt := 30) (dX1_rowsFrom.at 7 rfl) (by decide) (bz_rng _) (fun q => ?_) (fun q => ?_)
  · replace hv := hv.1 (bz_0 q)
    refine sw_lconst (z := 0) (dX1_rowsFrom.at 18 rfl) (by decide) ?_
    exact sw_lret (dX1_rowsFrom.at 19 rfl) rfl (Nat.le_refl _) (Nat.le_refl _) hv
  · replace hv := hv.2 (bz_n0 q)
    refine sw_aload_n (dX1_rowsFrom.at 8 rfl) rfl rfl ?_
    refine sw_getR (dX1_rowsFrom.at 9 rfl) fp_X1_45 (S_e_lt he) (S_e he) rfl rfl ?_
    refine sw_aload_n (dX1_rowsFrom.at 10 rfl) rfl rfl ?_
    refine sw_iload_n (dX1_rowsFrom.at 11 rfl) rfl rfl ?_
    refine sw_iconst (dX1_rowsFrom.at 12 rfl) ?_
    refine sw_iadd (dX1_rowsFrom.at 13 rfl) ?_
    refine sw_topI (y := ((s + 1 : Nat) : Int)) (by first | rfl | (congr 1)) ?_
    refine sw_iload_n (dX1_rowsFrom.at 14 rfl) rfl rfl ?_
    refine sw_callV (B' := B0) (As := [vi (((s + 1 : Nat) : Int)), vi (((x : Nat) : Int))]) (mc := 0) (ms := 0) (dX1_rowsFrom.at 15 rfl) lk_X1_110 (S_e_lt he) (S_e he) rfl rfl (Nat.le_of_ble_eq_true rfl) rfl (Nat.le_refl _) (Nat.le_refl _) ?_
    refine c_X1_mulP (e := e) (x := (s + 1)) (y := x) (j := j + 0) he hE hV hv.1 hv.2.1 ?_
    replace hv := hv.2.2
    refine sw_laldN (gX P (s + 1) x) (w := ((gW P (gX P (s + 1) x) : Nat) : Int)) (dX1_rowsFrom.at 16 rfl) (S_ek_lt he (by decide)) (S_e_12 he) (by decide) (GV_lt hV hv.1) (EL_W hE hv.1) ?_
    replace hv := hv.2
    refine sw_goto (tgt := 31) (dX1_rowsFrom.at 17 rfl) (by decide) ?_
    exact sw_lret (dX1_rowsFrom.at 19 rfl) rfl (Nat.le_refl _) (Nat.le_refl _) hv

set_option maxHeartbeats 2000000 in
theorem c_X1_rowsFrom {G : GG} {j nw nx gn : Nat} {g : Nat → Sh} {c : Nat → Nat → Int} {post : Option AV → AM → Prop} {P : GD} {e : Nat} {x : Nat} {s : Nat} (he : e = 21 ∨ e = 35) (hE : EL c e P) (hV : GV P) (p1 : x < gN P) (p2 : s < gR P) (p3 : s + 1 < gN P) (K : post (some (vl (((gRF P x s : Nat) : Int)))) (S nw nx g, 78 + gn, c)) : SM G (j + 2) mX1_rowsFrom [vr (e), vi (((x : Nat) : Int)), vi (((s : Nat) : Int))] (S nw nx g, 78 + gn, c) 0 0 post := by
  refine sm_of wX1_rowsFrom rfl (Nat.le_of_ble_eq_true rfl) ?_
  refine g_X1_rowsFrom_0 he hE hV ?_
  have a1 := (hV.2.2.1 x p1).2.2.2.2.1
  have := GV_R hV
  refine ⟨p1, by omega, by omega, by omega, fun h => ?_, fun h => ⟨p3, p1, hV.2.2.2.2.1 _ _ p3 p1, ?_⟩⟩
  · rw [gRF, h, if_neg (by decide)] at K; exact K
  · rw [gRF, h, if_pos rfl] at K; exact K

