def lsF (P : GD) (s : Nat) : Nat → Nat → Nat
  | 0, x => x
  | k + 1, x => if gE P x &&& s = 0 then x else lsF P s k (gS P x (lsb (gE P x &&& s)))
def loF (P : GD) (s : Nat) : Nat → Nat → Nat
  | 0, x => x
  | k + 1, x => if andn s (gE P x) = 0 then x else loF P s k (gS P x (lsb (andn s (gE P x))))
/-- letters that shorten are letters -/
def hRb (P : GD) : Prop := ∀ x, x < gN P → gE P x < 2 ^ gR P ∧ gF P x < 2 ^ gR P
theorem andn_le (a b : Nat) : andn a b ≤ a := by
  apply Nat.le_of_testBit
  intro i h
  rw [andn_bit] at h
  simp only [Bool.and_eq_true] at h
  exact h.1
theorem lsb_and {P : GD} (hr : hRb P) (hV : GV P) {x s : Nat} (hx : x < gN P) (h : gE P x &&& s ≠ 0) : lsb (gE P x &&& s) < gR P := by
  have h1 : gE P x &&& s < 2 ^ gR P := Nat.lt_of_le_of_lt Nat.and_le_left (hr x hx).1
  have h2 := p2_R hV
  exact isL_lt (lsb_is (by omega) (Nat.lt_trans (Nat.lt_of_lt_of_le h1 h2) (by decide))) h1
theorem lsb_andn {P : GD} (hV : GV P) {x s : Nat} (hs : s < 2 ^ gR P) (h : andn s (gE P x) ≠ 0) : lsb (andn s (gE P x)) < gR P := by
  have h1 : andn s (gE P x) < 2 ^ gR P := Nat.lt_of_le_of_lt (andn_le _ _) hs
  have h2 := p2_R hV
  exact isL_lt (lsb_is (by omega) (Nat.lt_trans (Nat.lt_of_lt_of_le h1 h2) (by decide))) h1
theorem lsF_lt {P : GD} (hr : hRb P) (hV : GV P) {s : Nat} : ∀ k x, x < gN P → lsF P s k x < gN P := by
  intro k
  induction k with
  | zero => intro x hx; exact hx
  | succ k ih =>
    intro x hx
    rw [lsF]
    split
    · exact hx
    · rename_i h
      exact ih _ (hV.2.2.2.1 x _ hx (lsb_and hr hV hx h))
theorem loF_lt {P : GD} (hV : GV P) {s : Nat} (hs : s < 2 ^ gR P) : ∀ k x, x < gN P → loF P s k x < gN P := by
  intro k
  induction k with
  | zero => intro x hx; exact hx
  | succ k ih =>
    intro x hx
    rw [loF]
    split
    · exact hx
    · rename_i h
      exact ih _ (hV.2.2.2.1 x _ hx (lsb_andn hV hs h))
set_option maxHeartbeats 2000000 in
set_option maxRecDepth 20000 in
theorem g_X8_least_24 {G : GG} {j nw nx gn : Nat} {g : Nat → Sh} {c : Nat → Nat → Int} {post : Option AV → AM → Prop} {x : Nat} {s : Nat} {P : GD} {y : Nat} {i : Nat} (hnw : nw = 21 ∨ nw = 35) (hE : EL c nw P) (hV : GV P)  (hv : (i < 2147483648) ∧ (((60 ≤ i) → post (some (vi (((y : Nat) : Int)))) (S nw nx g, 78 + gn, c)) ∧ ((¬ (60 ≤ i)) → (y < gN P) ∧ (((gE P y) &&& s < 2147483648) ∧ ((((gE P y) &&& s = 0) → post (some (vi (((y : Nat) : Int)))) (S nw nx g, 78 + gn, c)) ∧ ((¬ ((gE P y) &&& s = 0)) → (y < gN P) ∧ ((0 < ((gE P y) &&& s)) ∧ (((gE P y) &&& s) < 2 ^ 32) ∧ ((y < gN P) ∧ ((lsb ((gE P y) &&& s)) < gR P) ∧ (SW G (j + 2) mX8_least 24 [some (vr (0)), some (vi (((x : Nat) : Int))), some (vi (((s : Nat) : Int))), some (vi (((gS P y (lsb ((gE P y) &&& s)) : Nat) : Int))), some (vi (((i + 1 : Nat) : Int)))] [] (S nw nx g, 78 + gn, c) B0 post))))))))) :
    SW G (j + 2) mX8_least 24 [some (vr (0)), some (vi (((x : Nat) : Int))), some (vi (((s : Nat) : Int))), some (vi (((y : Nat) : Int))), some (vi (((i : Nat) : Int)))] [] (S nw nx g, 78 + gn, c) B0 post := by
  refine sw_iload (dX8_least.at 14 rfl) rfl ?_
  refine sw_bipush (dX8_least.at 15 rfl) (by decide) ?_
  refine sw_icmpN_ge i 60 (tgt := 74) (dX8_least.at 16 rfl) (by decide) hv.1 (by decide) (fun q => ?_) (fun q => ?_)
  · replace hv := hv.2.1 q
    refine sw_iload_n (dX8_least.at 40 rfl) rfl rfl ?_
    exact sw_iret (dX8_least.at 41 rfl) rfl (Nat.le_refl _) (Nat.le_refl _) hv
  · replace hv := hv.2.2 q
    refine sw_aload_n (dX8_least.at 17 rfl) rfl rfl ?_
    refine sw_getR (dX8_least.at 18 rfl) fp_X8_65 (S_lt 0 (by decide)) (S_0 nw nx g) rfl rfl ?_
    refine sw_getR (dX8_least.at 19 rfl) fp_X8_261 (S_e_lt hnw) (S_e hnw) rfl rfl ?_
    refine sw_iload_n (dX8_least.at 20 rfl) rfl rfl ?_
    refine sw_ialdN y (w := ((gE P y : Nat) : Int)) (dX8_least.at 21 rfl) (S_ek_lt hnw (by decide)) (S_e_9 hnw) (by decide) (GV_lt hV hv.1) (EL_E hE hv.1) ?_
    replace hv := hv.2
    refine sw_iload_n (dX8_least.at 22 rfl) rfl rfl ?_
    refine sw_andN (gE P y) s (dX8_least.at 23 rfl) ?_
    refine sw_ifN_eq ((gE P y) &&& s) (tgt := 74) (dX8_least.at 24 rfl) (by decide) hv.1 (fun q => ?_) (fun q => ?_)
    · replace hv := hv.2.1 q
      refine sw_iload_n (dX8_least.at 40 rfl) rfl rfl ?_
      exact sw_iret (dX8_least.at 41 rfl) rfl (Nat.le_refl _) (Nat.le_refl _) hv
    · replace hv := hv.2.2 q
      refine sw_aload_n (dX8_least.at 25 rfl) rfl rfl ?_
      refine sw_getR (dX8_least.at 26 rfl) fp_X8_65 (S_lt 0 (by decide)) (S_0 nw nx g) rfl rfl ?_
      refine sw_iload_n (dX8_least.at 27 rfl) rfl rfl ?_
      refine sw_aload_n (dX8_least.at 28 rfl) rfl rfl ?_
      refine sw_getR (dX8_least.at 29 rfl) fp_X8_65 (S_lt 0 (by decide)) (S_0 nw nx g) rfl rfl ?_
      refine sw_getR (dX8_least.at 30 rfl) fp_X8_261 (S_e_lt hnw) (S_e hnw) rfl rfl ?_
      refine sw_iload_n (dX8_least.at 31 rfl) rfl rfl ?_
      refine sw_ialdN y (w := ((gE P y : Nat) : Int)) (dX8_least.at 32 rfl) (S_ek_lt hnw (by decide)) (S_e_9 hnw) (by decide) (GV_lt hV hv.1) (EL_E hE hv.1) ?_
      replace hv := hv.2
      refine sw_iload_n (dX8_least.at 33 rfl) rfl rfl ?_
      refine sw_andN (gE P y) s (dX8_least.at 34 rfl) ?_
      refine sw_callS (post' := post) (B' := B0) (As := [vi ((((gE P y) &&& s : Nat) : Int))]) (mc := 0) (ms := 0) (dX8_least.at 35 rfl) lk_X8_264 rfl rfl (Nat.le_of_ble_eq_true rfl) rfl (Nat.le_refl _) (Nat.le_refl _) ?_
      refine c_J6n (n := ((gE P y) &&& s)) (j := j + 1) hv.1 hv.2.1 ?_
      replace hv := hv.2.2
      refine sw_callV (B' := B0) (As := [vi (((y : Nat) : Int)), vi (((lsb ((gE P y) &&& s) : Nat) : Int))]) (mc := 0) (ms := 0) (dX8_least.at 36 rfl) lk_X8_268 (S_e_lt hnw) (S_e hnw) rfl rfl (Nat.le_of_ble_eq_true rfl) rfl (Nat.le_refl _) (Nat.le_refl _) ?_
      refine c_X1_byP (e := nw) (x := y) (s := (lsb ((gE P y) &&& s))) (j := j + 1) hnw hE hV hv.1 hv.2.1 ?_
      replace hv := hv.2.2
      refine sw_istore_n (lo' := [some (vr (0)), some (vi (((x : Nat) : Int))), some (vi (((s : Nat) : Int))), some (vi (((gS P y (lsb ((gE P y) &&& s)) : Nat) : Int))), some (vi (((i : Nat) : Int)))]) (dX8_least.at 37 rfl) rfl (by decide) rfl ?_
      refine sw_iinc (lo' := [some (vr (0)), some (vi (((x : Nat) : Int))), some (vi (((s : Nat) : Int))), some (vi (((gS P y (lsb ((gE P y) &&& s)) : Nat) : Int))), some (vi (((i + 1 : Nat) : Int)))]) (dX8_least.at 38 rfl) rfl (by decide) rfl ?_
      refine sw_goto (tgt := 24) (dX8_least.at 39 rfl) (by decide) ?_
      exact hv

set_option maxHeartbeats 4000000 in
theorem lp_X8_least_24 {G : GG} {j nw nx gn : Nat} {g : Nat → Sh} {c : Nat → Nat → Int} {post : Option AV → AM → Prop} {P : GD} {x : Nat} {s : Nat} (hnw : nw = 21 ∨ nw = 35) (hE : EL c nw P) (hV : GV P) (hr : hRb P) : ∀ (k : Nat) (y : Nat) (i : Nat), i + k = 60 → (y < gN P) → (post (some (vi (((lsF P s k y : Nat) : Int)))) (S nw nx g, 78 + gn, c)) → SW G (j + 2) mX8_least 24 [some (vr (0)), some (vi (((x : Nat) : Int))), some (vi (((s : Nat) : Int))), some (vi (((y : Nat) : Int))), some (vi (((i : Nat) : Int)))] [] (S nw nx g, 78 + gn, c) B0 post := by
  intro k
  induction k with
  | zero =>
    intro y i hrel hy K
    simp only [lsF] at K
    refine g_X8_least_24 hnw hE hV  ?_
    refine ⟨?_, ⟨fun q => ?_, fun q => ⟨?_, ⟨?_, ⟨fun q => ?_, fun q => ⟨?_, ⟨?_, ?_, ⟨?_, ?_, ?_⟩⟩⟩⟩⟩⟩⟩⟩
    all_goals first | omega | exact K | (exfalso; omega) | (simp only [*, if_true, if_false, ite_true, ite_false, Bool.false_eq_true, and_true, true_and, and_false, false_and, and_self, or_true, true_or, or_false, false_or, Bool.and_true, Bool.and_false, Bool.true_and, Bool.false_and, decide_true, decide_false, eq_self, not_true_eq_false, not_false_eq_true, ne_eq, reduceCtorEq] at K; exact K)
  | succ k ih =>
    intro y i hrel hy K
    rw [lsF] at K
    have fE := hr y hy
    have h32 := p2_R hV
    have e9 : gE P y &&& s ≤ gE P y := Nat.and_le_left
    refine g_X8_least_24 hnw hE hV  ?_
    
    by_cases h0 : gE P y &&& s = 0
    · rw [if_pos h0] at K
      refine ⟨?_, ⟨fun q => ?_, fun q => ⟨?_, ⟨?_, ⟨fun q => ?_, fun q => ⟨?_, ⟨?_, ?_, ⟨?_, ?_, ?_⟩⟩⟩⟩⟩⟩⟩⟩
      all_goals first | omega | exact K | assumption | (exfalso; omega)
    · rw [if_neg h0] at K
      have l9 := lsb_and hr hV hy h0
      refine ⟨?_, ⟨fun q => ?_, fun q => ⟨?_, ⟨?_, ⟨fun q => ?_, fun q => ⟨?_, ⟨?_, ?_, ⟨?_, ?_, ?_⟩⟩⟩⟩⟩⟩⟩⟩
      all_goals first | omega | exact l9 | (exact Nat.lt_of_le_of_lt e9 (by omega)) | assumption | (exfalso; omega) | exact ih _ _ (by omega) (hV.2.2.2.1 y _ hy l9) K

def q_least (P : GD) (x s : Int) : Int := if (0 ≤ x ∧ x < (gN P : Int)) ∧ 0 < gN P ∧ 0 ≤ s ∧ s < ((2 ^ gR P : Nat) : Int) then ((lsF P s.toNat 60 x.toNat : Nat) : Int) else (-2)
set_option maxHeartbeats 2000000 in
set_option maxRecDepth 20000 in
theorem g_X8_least_0n {G : GG} {j nw nx gn : Nat} {g : Nat → Sh} {c : Nat → Nat → Int} {post : Option AV → AM → Prop} {x : Nat} {s : Nat} {P : GD} (hnw : nw = 21 ∨ nw = 35) (hE : EL c nw P) (hV : GV P) (hr : hRb P)  (hv : (-2147483648 ≤ ((x : Nat) : Int) ∧ ((x : Nat) : Int) < 2147483648) ∧ ((((decide (0 ≤ ((x : Nat) : Int) ∧ ((x : Nat) : Int) < (gN P : Int))) = false) → post (some (vi ((-2)))) (S nw nx g, 78 + gn, c)) ∧ (((decide (0 ≤ ((x : Nat) : Int) ∧ ((x : Nat) : Int) < (gN P : Int))) = true) → (-2147483648 ≤ ((s : Nat) : Int) ∧ ((s : Nat) : Int) < 2147483648) ∧ ((((decide (0 < gN P ∧ 0 ≤ ((s : Nat) : Int) ∧ ((s : Nat) : Int) < ((2 ^ gR P : Nat) : Int))) = true) → SW G (j + 2) mX8_least 24 [some (vr (0)), some (vi (((x : Nat) : Int))), some (vi (((s : Nat) : Int))), some (vi (((x : Nat) : Int))), some (vi (0))] [] (S nw nx g, 78 + gn, c) B0 post) ∧ (((decide (0 < gN P ∧ 0 ≤ ((s : Nat) : Int) ∧ ((s : Nat) : Int) < ((2 ^ gR P : Nat) : Int))) = false) → post (some (vi ((-2)))) (S nw nx g, 78 + gn, c)))))) :
    SW G (j + 2) mX8_least 0 [some (vr (0)), some (vi (((x : Nat) : Int))), some (vi (((s : Nat) : Int))), none, none] [] (S nw nx g, 78 + gn, c) B0 post := by
  refine sw_aload_n (dX8_least.at 0 rfl) rfl rfl ?_
  refine sw_iload_n (dX8_least.at 1 rfl) rfl rfl ?_
  refine sw_callV (B' := B0) (As := [vi (((x : Nat) : Int))]) (mc := 0) (ms := 0) (dX8_least.at 2 rfl) lk_X8_130 (S_lt 0 (by decide)) (S_0 nw nx g) rfl rfl (Nat.le_of_ble_eq_true rfl) rfl (Nat.le_refl _) (Nat.le_refl _) ?_
  refine c_X8_isElementP (x := ((x : Nat) : Int)) (j := j + 1) hnw hE hV hv.1 ?_
  replace hv := hv.2
  refine sw_if_eq (tgt := 16) (dX8_least.at 3 rfl) (by decide) (bz_rng _) (fun q => ?_) (fun q => ?_)
  · replace hv := hv.1 (bz_0 q)
    refine sw_bipush (dX8_least.at 8 rfl) (by decide) ?_
    exact sw_iret (dX8_least.at 9 rfl) rfl (Nat.le_refl _) (Nat.le_refl _) hv
  · replace hv := hv.2 (bz_n0 q)
    refine sw_aload_n (dX8_least.at 4 rfl) rfl rfl ?_
    refine sw_iload_n (dX8_least.at 5 rfl) rfl rfl ?_
    refine sw_callV (B' := B0) (As := [vi (((s : Nat) : Int))]) (mc := 0) (ms := 0) (dX8_least.at 6 rfl) lk_X8_258 (S_lt 0 (by decide)) (S_0 nw nx g) rfl rfl (Nat.le_of_ble_eq_true rfl) rfl (Nat.le_refl _) (Nat.le_refl _) ?_
    refine c_X8_isSet (x := ((s : Nat) : Int)) (j := j + 1) hnw hE hV hv.1 ?_
    replace hv := hv.2
    refine sw_if_ne (tgt := 19) (dX8_least.at 7 rfl) (by decide) (bz_rng _) (fun q => ?_) (fun q => ?_)
    · replace hv := hv.1 (bz_1 q)
      refine sw_iload_n (dX8_least.at 10 rfl) rfl rfl ?_
      refine sw_istore_n (lo' := [some (vr (0)), some (vi (((x : Nat) : Int))), some (vi (((s : Nat) : Int))), some (vi (((x : Nat) : Int))), none]) (dX8_least.at 11 rfl) rfl (by decide) rfl ?_
      refine sw_iconst (dX8_least.at 12 rfl) ?_
      refine sw_istore (lo' := [some (vr (0)), some (vi (((x : Nat) : Int))), some (vi (((s : Nat) : Int))), some (vi (((x : Nat) : Int))), some (vi (0))]) (dX8_least.at 13 rfl) (by decide) rfl ?_
      exact hv
    · replace hv := hv.2 (bz_n1 q)
      refine sw_bipush (dX8_least.at 8 rfl) (by decide) ?_
      exact sw_iret (dX8_least.at 9 rfl) rfl (Nat.le_refl _) (Nat.le_refl _) hv

set_option maxHeartbeats 2000000 in
set_option maxRecDepth 20000 in
theorem g_X8_least_0 {G : GG} {j nw nx gn : Nat} {g : Nat → Sh} {c : Nat → Nat → Int} {post : Option AV → AM → Prop} {x : Int} {s : Int} {P : GD} (hnw : nw = 21 ∨ nw = 35) (hE : EL c nw P) (hV : GV P) (hr : hRb P)  (hv : (-2147483648 ≤ x ∧ x < 2147483648) ∧ ((((decide (0 ≤ x ∧ x < (gN P : Int))) = false) → post (some (vi ((-2)))) (S nw nx g, 78 + gn, c)) ∧ (((decide (0 ≤ x ∧ x < (gN P : Int))) = true) → (-2147483648 ≤ s ∧ s < 2147483648) ∧ ((((decide (0 < gN P ∧ 0 ≤ s ∧ s < ((2 ^ gR P : Nat) : Int))) = true) → SW G (j + 2) mX8_least 24 [some (vr (0)), some (vi (x)), some (vi (s)), some (vi (x)), some (vi (0))] [] (S nw nx g, 78 + gn, c) B0 post) ∧ (((decide (0 < gN P ∧ 0 ≤ s ∧ s < ((2 ^ gR P : Nat) : Int))) = false) → post (some (vi ((-2)))) (S nw nx g, 78 + gn, c)))))) :
    SW G (j + 2) mX8_least 0 [some (vr (0)), some (vi (x)), some (vi (s)), none, none] [] (S nw nx g, 78 + gn, c) B0 post := by
  refine sw_aload_n (dX8_least.at 0 rfl) rfl rfl ?_
  refine sw_iload_n (dX8_least.at 1 rfl) rfl rfl ?_
  refine sw_callV (B' := B0) (As := [vi (x)]) (mc := 0) (ms := 0) (dX8_least.at 2 rfl) lk_X8_130 (S_lt 0 (by decide)) (S_0 nw nx g) rfl rfl (Nat.le_of_ble_eq_true rfl) rfl (Nat.le_refl _) (Nat.le_refl _) ?_
  refine c_X8_isElementP (x := x) (j := j + 1) hnw hE hV hv.1 ?_
  replace hv := hv.2
  refine sw_if_eq (tgt := 16) (dX8_least.at 3 rfl) (by decide) (bz_rng _) (fun q => ?_) (fun q => ?_)
  · replace hv := hv.1 (bz_0 q)
    refine sw_bipush (dX8_least.at 8 rfl) (by decide) ?_
    exact sw_iret (dX8_least.at 9 rfl) rfl (Nat.le_refl _) (Nat.le_refl _) hv
  · replace hv := hv.2 (bz_n0 q)
    refine sw_aload_n (dX8_least.at 4 rfl) rfl rfl ?_
    refine sw_iload_n (dX8_least.at 5 rfl) rfl rfl ?_
    refine sw_callV (B' := B0) (As := [vi (s)]) (mc := 0) (ms := 0) (dX8_least.at 6 rfl) lk_X8_258 (S_lt 0 (by decide)) (S_0 nw nx g) rfl rfl (Nat.le_of_ble_eq_true rfl) rfl (Nat.le_refl _) (Nat.le_refl _) ?_
    refine c_X8_isSet (x := s) (j := j + 1) hnw hE hV hv.1 ?_
    replace hv := hv.2
    refine sw_if_ne (tgt := 19) (dX8_least.at 7 rfl) (by decide) (bz_rng _) (fun q => ?_) (fun q => ?_)
    · replace hv := hv.1 (bz_1 q)
      refine sw_iload_n (dX8_least.at 10 rfl) rfl rfl ?_
      refine sw_istore_n (lo' := [some (vr (0)), some (vi (x)), some (vi (s)), some (vi (x)), none]) (dX8_least.at 11 rfl) rfl (by decide) rfl ?_
      refine sw_iconst (dX8_least.at 12 rfl) ?_
      refine sw_istore (lo' := [some (vr (0)), some (vi (x)), some (vi (s)), some (vi (x)), some (vi (0))]) (dX8_least.at 13 rfl) (by decide) rfl ?_
      exact hv
    · replace hv := hv.2 (bz_n1 q)
      refine sw_bipush (dX8_least.at 8 rfl) (by decide) ?_
      exact sw_iret (dX8_least.at 9 rfl) rfl (Nat.le_refl _) (Nat.le_refl _) hv

set_option maxHeartbeats 4000000 in
theorem c_X8_least {G : GG} {j nw nx gn : Nat} {g : Nat → Sh} {c : Nat → Nat → Int} {post : Option AV → AM → Prop} {P : GD} {x s : Int} (hnw : nw = 21 ∨ nw = 35) (hE : EL c nw P) (hV : GV P) (hr : hRb P) (p1 : -2147483648 ≤ x ∧ x < 2147483648) (p2 : -2147483648 ≤ s ∧ s < 2147483648) (K : post (some (vi (q_least P x s))) (S nw nx g, 78 + gn, c)) : SM G (j + 3) mX8_least [vr (0), vi (x), vi (s)] (S nw nx g, 78 + gn, c) 0 0 post := by
  refine sm_of wX8_least rfl (Nat.le_of_ble_eq_true rfl) ?_
  have hN60 := GV_N hV
  have hR5 := GV_R hV
  by_cases hv : (0 ≤ x ∧ x < (gN P : Int)) ∧ 0 < gN P ∧ 0 ≤ s ∧ s < ((2 ^ gR P : Nat) : Int)
  · obtain ⟨x, rfl⟩ : ∃ n : Nat, x = (n : Int) := ⟨x.toNat, by omega⟩
    obtain ⟨s, rfl⟩ : ∃ n : Nat, s = (n : Int) := ⟨s.toNat, by omega⟩
    have e : q_least P ((x : Nat) : Int) ((s : Nat) : Int) = ((lsF P s 60 x : Nat) : Int) := by
      rw [q_least, if_pos hv]
      simp only [Int.toNat_natCast]
    rw [e] at K
    have K1 : ∀ z : Int, z = (((lsF P s 60 x : Nat) : Int)) → post (some (vi z)) (S nw nx g, 78 + gn, c) := fun z h => h ▸ K
    refine g_X8_least_0n hnw hE hV hr ?_
    refine ⟨?_, ⟨fun q => ?_, fun q => ⟨?_, ⟨fun q => ?_, fun q => ?_⟩⟩⟩⟩
    all_goals first | omega | assumption | (exfalso; simp only [decide_eq_true_eq, decide_eq_false_iff_not] at *; omega) | exact lp_X8_least_24 hnw hE hV hr 60 x 0 (by omega) (by omega) K
  · have e : q_least P x s = (-2) := by rw [q_least, if_neg hv]
    rw [e] at K
    refine g_X8_least_0 hnw hE hV hr ?_
    refine ⟨?_, ⟨fun q => ?_, fun q => ⟨?_, ⟨fun q => ?_, fun q => ?_⟩⟩⟩⟩
    all_goals first | exact K | omega | assumption | (exfalso; simp only [decide_eq_true_eq, decide_eq_false_iff_not] at *; omega)

set_option maxHeartbeats 2000000 in
set_option maxRecDepth 20000 in
theorem g_X8_longest_15 {G : GG} {j nw nx gn : Nat} {g : Nat → Sh} {c : Nat → Nat → Int} {post : Option AV → AM → Prop} {s : Nat} {P : GD} {y : Nat} {i : Nat} (hnw : nw = 21 ∨ nw = 35) (hE : EL c nw P) (hV : GV P)  (hv : (i < 2147483648) ∧ (((60 ≤ i) → post (some (vi (((y : Nat) : Int)))) (S nw nx g, 78 + gn, c)) ∧ ((¬ (60 ≤ i)) → (y < gN P) ∧ ((andn s (gE P y) < 2147483648) ∧ (((andn s (gE P y) = 0) → post (some (vi (((y : Nat) : Int)))) (S nw nx g, 78 + gn, c)) ∧ ((¬ (andn s (gE P y) = 0)) → (y < gN P) ∧ ((0 < (andn s (gE P y))) ∧ ((andn s (gE P y)) < 2 ^ 32) ∧ ((y < gN P) ∧ ((lsb (andn s (gE P y))) < gR P) ∧ (SW G (j + 2) mX8_longest 15 [some (vr (0)), some (vi (((s : Nat) : Int))), some (vi (((gS P y (lsb (andn s (gE P y))) : Nat) : Int))), some (vi (((i + 1 : Nat) : Int)))] [] (S nw nx g, 78 + gn, c) B0 post))))))))) :
    SW G (j + 2) mX8_longest 15 [some (vr (0)), some (vi (((s : Nat) : Int))), some (vi (((y : Nat) : Int))), some (vi (((i : Nat) : Int)))] [] (S nw nx g, 78 + gn, c) B0 post := by
  refine sw_iload_n (dX8_longest.at 10 rfl) rfl rfl ?_
  refine sw_bipush (dX8_longest.at 11 rfl) (by decide) ?_
  refine sw_icmpN_ge i 60 (tgt := 68) (dX8_longest.at 12 rfl) (by decide) hv.1 (by decide) (fun q => ?_) (fun q => ?_)
  · replace hv := hv.2.1 q
    refine sw_iload_n (dX8_longest.at 40 rfl) rfl rfl ?_
    exact sw_iret (dX8_longest.at 41 rfl) rfl (Nat.le_refl _) (Nat.le_refl _) hv
  · replace hv := hv.2.2 q
    refine sw_iload_n (dX8_longest.at 13 rfl) rfl rfl ?_
    refine sw_aload_n (dX8_longest.at 14 rfl) rfl rfl ?_
    refine sw_getR (dX8_longest.at 15 rfl) fp_X8_65 (S_lt 0 (by decide)) (S_0 nw nx g) rfl rfl ?_
    refine sw_getR (dX8_longest.at 16 rfl) fp_X8_261 (S_e_lt hnw) (S_e hnw) rfl rfl ?_
    refine sw_iload_n (dX8_longest.at 17 rfl) rfl rfl ?_
    refine sw_ialdN y (w := ((gE P y : Nat) : Int)) (dX8_longest.at 18 rfl) (S_ek_lt hnw (by decide)) (S_e_9 hnw) (by decide) (GV_lt hV hv.1) (EL_E hE hv.1) ?_
    replace hv := hv.2
    refine sw_iconst (dX8_longest.at 19 rfl) ?_
    refine sw_ixor (dX8_longest.at 20 rfl) ?_
    refine sw_andC s (gE P y) (dX8_longest.at 21 rfl) ?_
    refine sw_ifN_eq (andn s (gE P y)) (tgt := 68) (dX8_longest.at 22 rfl) (by decide) hv.1 (fun q => ?_) (fun q => ?_)
    · replace hv := hv.2.1 q
      refine sw_iload_n (dX8_longest.at 40 rfl) rfl rfl ?_
      exact sw_iret (dX8_longest.at 41 rfl) rfl (Nat.le_refl _) (Nat.le_refl _) hv
    · replace hv := hv.2.2 q
      refine sw_aload_n (dX8_longest.at 23 rfl) rfl rfl ?_
      refine sw_getR (dX8_longest.at 24 rfl) fp_X8_65 (S_lt 0 (by decide)) (S_0 nw nx g) rfl rfl ?_
      refine sw_iload_n (dX8_longest.at 25 rfl) rfl rfl ?_
      refine sw_iload_n (dX8_longest.at 26 rfl) rfl rfl ?_
      refine sw_aload_n (dX8_longest.at 27 rfl) rfl rfl ?_
      refine sw_getR (dX8_longest.at 28 rfl) fp_X8_65 (S_lt 0 (by decide)) (S_0 nw nx g) rfl rfl ?_
      refine sw_getR (dX8_longest.at 29 rfl) fp_X8_261 (S_e_lt hnw) (S_e hnw) rfl rfl ?_
      refine sw_iload_n (dX8_longest.at 30 rfl) rfl rfl ?_
      refine sw_ialdN y (w := ((gE P y : Nat) : Int)) (dX8_longest.at 31 rfl) (S_ek_lt hnw (by decide)) (S_e_9 hnw) (by decide) (GV_lt hV hv.1) (EL_E hE hv.1) ?_
      replace hv := hv.2
      refine sw_iconst (dX8_longest.at 32 rfl) ?_
      refine sw_ixor (dX8_longest.at 33 rfl) ?_
      refine sw_andC s (gE P y) (dX8_longest.at 34 rfl) ?_
      refine sw_callS (post' := post) (B' := B0) (As := [vi (((andn s (gE P y) : Nat) : Int))]) (mc := 0) (ms := 0) (dX8_longest.at 35 rfl) lk_X8_264 rfl rfl (Nat.le_of_ble_eq_true rfl) rfl (Nat.le_refl _) (Nat.le_refl _) ?_
      refine c_J6n (n := (andn s (gE P y))) (j := j + 1) hv.1 hv.2.1 ?_
      replace hv := hv.2.2
      refine sw_callV (B' := B0) (As := [vi (((y : Nat) : Int)), vi (((lsb (andn s (gE P y)) : Nat) : Int))]) (mc := 0) (ms := 0) (dX8_longest.at 36 rfl) lk_X8_268 (S_e_lt hnw) (S_e hnw) rfl rfl (Nat.le_of_ble_eq_true rfl) rfl (Nat.le_refl _) (Nat.le_refl _) ?_
      refine c_X1_byP (e := nw) (x := y) (s := (lsb (andn s (gE P y)))) (j := j + 1) hnw hE hV hv.1 hv.2.1 ?_
      replace hv := hv.2.2
      refine sw_istore_n (lo' := [some (vr (0)), some (vi (((s : Nat) : Int))), some (vi (((gS P y (lsb (andn s (gE P y))) : Nat) : Int))), some (vi (((i : Nat) : Int)))]) (dX8_longest.at 37 rfl) rfl (by decide) rfl ?_
      refine sw_iinc (lo' := [some (vr (0)), some (vi (((s : Nat) : Int))), some (vi (((gS P y (lsb (andn s (gE P y))) : Nat) : Int))), some (vi (((i + 1 : Nat) : Int)))]) (dX8_longest.at 38 rfl) rfl (by decide) rfl ?_
      refine sw_goto (tgt := 15) (dX8_longest.at 39 rfl) (by decide) ?_
      exact hv

set_option maxHeartbeats 4000000 in
theorem lp_X8_longest_15 {G : GG} {j nw nx gn : Nat} {g : Nat → Sh} {c : Nat → Nat → Int} {post : Option AV → AM → Prop} {P : GD} {s : Nat} (hnw : nw = 21 ∨ nw = 35) (hE : EL c nw P) (hV : GV P) (hs : s < 2 ^ gR P) : ∀ (k : Nat) (y : Nat) (i : Nat), i + k = 60 → (y < gN P) → (post (some (vi (((loF P s k y : Nat) : Int)))) (S nw nx g, 78 + gn, c)) → SW G (j + 2) mX8_longest 15 [some (vr (0)), some (vi (((s : Nat) : Int))), some (vi (((y : Nat) : Int))), some (vi (((i : Nat) : Int)))] [] (S nw nx g, 78 + gn, c) B0 post := by
  intro k
  induction k with
  | zero =>
    intro y i hrel hy K
    simp only [loF] at K
    refine g_X8_longest_15 hnw hE hV  ?_
    refine ⟨?_, ⟨fun q => ?_, fun q => ⟨?_, ⟨?_, ⟨fun q => ?_, fun q => ⟨?_, ⟨?_, ?_, ⟨?_, ?_, ?_⟩⟩⟩⟩⟩⟩⟩⟩
    all_goals first | omega | exact K | (exfalso; omega) | (simp only [*, if_true, if_false, ite_true, ite_false, Bool.false_eq_true, and_true, true_and, and_false, false_and, and_self, or_true, true_or, or_false, false_or, Bool.and_true, Bool.and_false, Bool.true_and, Bool.false_and, decide_true, decide_false, eq_self, not_true_eq_false, not_false_eq_true, ne_eq, reduceCtorEq] at K; exact K)
  | succ k ih =>
    intro y i hrel hy K
    rw [loF] at K
    have h32 := p2_R hV
    have e9 := andn_le s (gE P y)
    refine g_X8_longest_15 hnw hE hV  ?_
    
    by_cases h0 : andn s (gE P y) = 0
    · rw [if_pos h0] at K
      refine ⟨?_, ⟨fun q => ?_, fun q => ⟨?_, ⟨?_, ⟨fun q => ?_, fun q => ⟨?_, ⟨?_, ?_, ⟨?_, ?_, ?_⟩⟩⟩⟩⟩⟩⟩⟩
      all_goals first | omega | exact K | assumption | (exfalso; omega)
    · rw [if_neg h0] at K
      have l9 := lsb_andn hV hs h0
      refine ⟨?_, ⟨fun q => ?_, fun q => ⟨?_, ⟨?_, ⟨fun q => ?_, fun q => ⟨?_, ⟨?_, ?_, ⟨?_, ?_, ?_⟩⟩⟩⟩⟩⟩⟩⟩
      all_goals first | omega | exact l9 | (exact Nat.lt_of_le_of_lt e9 (by omega)) | assumption | (exfalso; omega) | exact ih _ _ (by omega) (hV.2.2.2.1 y _ hy l9) K

def q_longest (P : GD) (s : Int) : Int := if 0 < gN P ∧ 0 ≤ s ∧ s < ((2 ^ gR P : Nat) : Int) then ((loF P s.toNat 60 0 : Nat) : Int) else (-2)
set_option maxHeartbeats 2000000 in
set_option maxRecDepth 20000 in
theorem g_X8_longest_0n {G : GG} {j nw nx gn : Nat} {g : Nat → Sh} {c : Nat → Nat → Int} {post : Option AV → AM → Prop} {s : Nat} {P : GD} (hnw : nw = 21 ∨ nw = 35) (hE : EL c nw P) (hV : GV P) (hr : hRb P)  (hv : (-2147483648 ≤ ((s : Nat) : Int) ∧ ((s : Nat) : Int) < 2147483648) ∧ ((((decide (0 < gN P ∧ 0 ≤ ((s : Nat) : Int) ∧ ((s : Nat) : Int) < ((2 ^ gR P : Nat) : Int))) = true) → SW G (j + 2) mX8_longest 15 [some (vr (0)), some (vi (((s : Nat) : Int))), some (vi (0)), some (vi (0))] [] (S nw nx g, 78 + gn, c) B0 post) ∧ (((decide (0 < gN P ∧ 0 ≤ ((s : Nat) : Int) ∧ ((s : Nat) : Int) < ((2 ^ gR P : Nat) : Int))) = false) → post (some (vi ((-2)))) (S nw nx g, 78 + gn, c)))) :
    SW G (j + 2) mX8_longest 0 [some (vr (0)), some (vi (((s : Nat) : Int))), none, none] [] (S nw nx g, 78 + gn, c) B0 post := by
  refine sw_aload_n (dX8_longest.at 0 rfl) rfl rfl ?_
  refine sw_iload_n (dX8_longest.at 1 rfl) rfl rfl ?_
  refine sw_callV (B' := B0) (As := [vi (((s : Nat) : Int))]) (mc := 0) (ms := 0) (dX8_longest.at 2 rfl) lk_X8_258 (S_lt 0 (by decide)) (S_0 nw nx g) rfl rfl (Nat.le_of_ble_eq_true rfl) rfl (Nat.le_refl _) (Nat.le_refl _) ?_
  refine c_X8_isSet (x := ((s : Nat) : Int)) (j := j + 1) hnw hE hV hv.1 ?_
  replace hv := hv.2
  refine sw_if_ne (tgt := 11) (dX8_longest.at 3 rfl) (by decide) (bz_rng _) (fun q => ?_) (fun q => ?_)
  · replace hv := hv.1 (bz_1 q)
    refine sw_iconst (dX8_longest.at 6 rfl) ?_
    refine sw_istore_n (lo' := [some (vr (0)), some (vi (((s : Nat) : Int))), some (vi (0)), none]) (dX8_longest.at 7 rfl) rfl (by decide) rfl ?_
    refine sw_iconst (dX8_longest.at 8 rfl) ?_
    refine sw_istore_n (lo' := [some (vr (0)), some (vi (((s : Nat) : Int))), some (vi (0)), some (vi (0))]) (dX8_longest.at 9 rfl) rfl (by decide) rfl ?_
    exact hv
  · replace hv := hv.2 (bz_n1 q)
    refine sw_bipush (dX8_longest.at 4 rfl) (by decide) ?_
    exact sw_iret (dX8_longest.at 5 rfl) rfl (Nat.le_refl _) (Nat.le_refl _) hv

set_option maxHeartbeats 2000000 in
set_option maxRecDepth 20000 in
theorem g_X8_longest_0 {G : GG} {j nw nx gn : Nat} {g : Nat → Sh} {c : Nat → Nat → Int} {post : Option AV → AM → Prop} {s : Int} {P : GD} (hnw : nw = 21 ∨ nw = 35) (hE : EL c nw P) (hV : GV P) (hr : hRb P)  (hv : (-2147483648 ≤ s ∧ s < 2147483648) ∧ ((((decide (0 < gN P ∧ 0 ≤ s ∧ s < ((2 ^ gR P : Nat) : Int))) = true) → SW G (j + 2) mX8_longest 15 [some (vr (0)), some (vi (s)), some (vi (0)), some (vi (0))] [] (S nw nx g, 78 + gn, c) B0 post) ∧ (((decide (0 < gN P ∧ 0 ≤ s ∧ s < ((2 ^ gR P : Nat) : Int))) = false) → post (some (vi ((-2)))) (S nw nx g, 78 + gn, c)))) :
    SW G (j + 2) mX8_longest 0 [some (vr (0)), some (vi (s)), none, none] [] (S nw nx g, 78 + gn, c) B0 post := by
  refine sw_aload_n (dX8_longest.at 0 rfl) rfl rfl ?_
  refine sw_iload_n (dX8_longest.at 1 rfl) rfl rfl ?_
  refine sw_callV (B' := B0) (As := [vi (s)]) (mc := 0) (ms := 0) (dX8_longest.at 2 rfl) lk_X8_258 (S_lt 0 (by decide)) (S_0 nw nx g) rfl rfl (Nat.le_of_ble_eq_true rfl) rfl (Nat.le_refl _) (Nat.le_refl _) ?_
  refine c_X8_isSet (x := s) (j := j + 1) hnw hE hV hv.1 ?_
  replace hv := hv.2
  refine sw_if_ne (tgt := 11) (dX8_longest.at 3 rfl) (by decide) (bz_rng _) (fun q => ?_) (fun q => ?_)
  · replace hv := hv.1 (bz_1 q)
    refine sw_iconst (dX8_longest.at 6 rfl) ?_
    refine sw_istore_n (lo' := [some (vr (0)), some (vi (s)), some (vi (0)), none]) (dX8_longest.at 7 rfl) rfl (by decide) rfl ?_
    refine sw_iconst (dX8_longest.at 8 rfl) ?_
    refine sw_istore_n (lo' := [some (vr (0)), some (vi (s)), some (vi (0)), some (vi (0))]) (dX8_longest.at 9 rfl) rfl (by decide) rfl ?_
    exact hv
  · replace hv := hv.2 (bz_n1 q)
    refine sw_bipush (dX8_longest.at 4 rfl) (by decide) ?_
    exact sw_iret (dX8_longest.at 5 rfl) rfl (Nat.le_refl _) (Nat.le_refl _) hv

set_option maxHeartbeats 4000000 in
theorem c_X8_longest {G : GG} {j nw nx gn : Nat} {g : Nat → Sh} {c : Nat → Nat → Int} {post : Option AV → AM → Prop} {P : GD} {s : Int} (hnw : nw = 21 ∨ nw = 35) (hE : EL c nw P) (hV : GV P) (hr : hRb P) (p1 : -2147483648 ≤ s ∧ s < 2147483648) (K : post (some (vi (q_longest P s))) (S nw nx g, 78 + gn, c)) : SM G (j + 3) mX8_longest [vr (0), vi (s)] (S nw nx g, 78 + gn, c) 0 0 post := by
  refine sm_of wX8_longest rfl (Nat.le_of_ble_eq_true rfl) ?_
  have hN60 := GV_N hV
  have hR5 := GV_R hV
  by_cases hv : 0 < gN P ∧ 0 ≤ s ∧ s < ((2 ^ gR P : Nat) : Int)
  · obtain ⟨s, rfl⟩ : ∃ n : Nat, s = (n : Int) := ⟨s.toNat, by omega⟩
    have e : q_longest P ((s : Nat) : Int) = ((loF P s 60 0 : Nat) : Int) := by
      rw [q_longest, if_pos hv]
      simp only [Int.toNat_natCast]
    rw [e] at K
    have K1 : ∀ z : Int, z = (((loF P s 60 0 : Nat) : Int)) → post (some (vi z)) (S nw nx g, 78 + gn, c) := fun z h => h ▸ K
    refine g_X8_longest_0n hnw hE hV hr ?_
    refine ⟨?_, ⟨fun q => ?_, fun q => ?_⟩⟩
    all_goals first | omega | assumption | (exfalso; simp only [decide_eq_true_eq, decide_eq_false_iff_not] at *; omega) | exact lp_X8_longest_15 hnw hE hV (by omega) 60 0 0 (by omega) (by omega) K
  · have e : q_longest P s = (-2) := by rw [q_longest, if_neg hv]
    rw [e] at K
    refine g_X8_longest_0 hnw hE hV hr ?_
    refine ⟨?_, ⟨fun q => ?_, fun q => ?_⟩⟩
    all_goals first | exact K | omega | assumption | (exfalso; simp only [decide_eq_true_eq, decide_eq_false_iff_not] at *; omega)

set_option maxHeartbeats 2000000 in
theorem c_X8_leastn {G : GG} {j nw nx gn : Nat} {g : Nat → Sh} {c : Nat → Nat → Int} {post : Option AV → AM → Prop} {P : GD} {x : Nat} {s : Nat} (hnw : nw = 21 ∨ nw = 35) (hE : EL c nw P) (hV : GV P) (hr : hRb P) (p1 : x < gN P) (p2 : s < 2 ^ gR P) (K : post (some (vi (((lsF P s 60 x : Nat) : Int)))) (S nw nx g, 78 + gn, c)) : SM G (j + 3) mX8_least [vr (0), vi (((x : Nat) : Int)), vi (((s : Nat) : Int))] (S nw nx g, 78 + gn, c) 0 0 post := by
  refine sm_of wX8_least rfl (Nat.le_of_ble_eq_true rfl) ?_
  have h60 := GV_N hV
  have h32 := p2_R hV
  refine (g_X8_least_0n hnw hE hV hr ?_)
  refine ⟨?_, ⟨fun q => ?_, fun q => ⟨?_, ⟨fun q => ?_, fun q => ?_⟩⟩⟩⟩
  all_goals first | omega | assumption | (exfalso; simp only [decide_eq_true_eq, decide_eq_false_iff_not] at *; omega) | exact lp_X8_least_24 hnw hE hV hr 60 x 0 (by omega) (by omega) K

set_option maxHeartbeats 2000000 in
theorem c_X8_longestn {G : GG} {j nw nx gn : Nat} {g : Nat → Sh} {c : Nat → Nat → Int} {post : Option AV → AM → Prop} {P : GD} {s : Nat} (hnw : nw = 21 ∨ nw = 35) (hE : EL c nw P) (hV : GV P) (hr : hRb P) (p1 : 0 < gN P) (p2 : s < 2 ^ gR P) (K : post (some (vi (((loF P s 60 0 : Nat) : Int)))) (S nw nx g, 78 + gn, c)) : SM G (j + 3) mX8_longest [vr (0), vi (((s : Nat) : Int))] (S nw nx g, 78 + gn, c) 0 0 post := by
  refine sm_of wX8_longest rfl (Nat.le_of_ble_eq_true rfl) ?_
  have h60 := GV_N hV
  have h32 := p2_R hV
  refine (g_X8_longest_0n hnw hE hV hr ?_)
  refine ⟨?_, ⟨fun q => ?_, fun q => ?_⟩⟩
  all_goals first | omega | assumption | (exfalso; simp only [decide_eq_true_eq, decide_eq_false_iff_not] at *; omega) | exact lp_X8_longest_15 hnw hE hV (by omega) 60 0 0 (by omega) (by omega) K

def q_pBy (P : GD) (T : PT) (s x y k : Int) : Int := if (0 < gN P ∧ 0 ≤ s ∧ s < ((2 ^ gR P : Nat) : Int)) ∧ ((0 ≤ x ∧ x < (gN P : Int)) ∧ 0 ≤ y ∧ y < (gN P : Int)) ∧ 0 ≤ k then if k.toNat < 8 then T (gX P (lsF P s.toNat 60 x.toNat) (loF P s.toNat 60 0)) (gX P (lsF P s.toNat 60 y.toNat) (loF P s.toNat 60 0)) k.toNat else 0 else (-1000000)
set_option maxHeartbeats 2000000 in
set_option maxRecDepth 20000 in
theorem g_X8_pBy_0n {G : GG} {j nw nx gn : Nat} {g : Nat → Sh} {c : Nat → Nat → Int} {post : Option AV → AM → Prop} {s : Nat} {x : Nat} {y : Nat} {k : Nat} {P : GD} {T : PT} (hnw : nw = 21 ∨ nw = 35) (hE : EL c nw P) (hV : GV P) (hT : HT P T) (hR : PR P T c) (hr : hRb P)  (hv : (-2147483648 ≤ ((s : Nat) : Int) ∧ ((s : Nat) : Int) < 2147483648) ∧ ((((decide (0 < gN P ∧ 0 ≤ ((s : Nat) : Int) ∧ ((s : Nat) : Int) < ((2 ^ gR P : Nat) : Int))) = false) → post (some (vi ((-1000000)))) (S nw nx g, 78 + gn, c)) ∧ (((decide (0 < gN P ∧ 0 ≤ ((s : Nat) : Int) ∧ ((s : Nat) : Int) < ((2 ^ gR P : Nat) : Int))) = true) → (-2147483648 ≤ ((x : Nat) : Int) ∧ ((x : Nat) : Int) < 2147483648) ∧ (-2147483648 ≤ ((y : Nat) : Int) ∧ ((y : Nat) : Int) < 2147483648) ∧ ((((decide ((0 ≤ ((x : Nat) : Int) ∧ ((x : Nat) : Int) < (gN P : Int)) ∧ 0 ≤ ((y : Nat) : Int) ∧ ((y : Nat) : Int) < (gN P : Int))) = false) → post (some (vi ((-1000000)))) (S nw nx g, 78 + gn, c)) ∧ (((decide ((0 ≤ ((x : Nat) : Int) ∧ ((x : Nat) : Int) < (gN P : Int)) ∧ 0 ≤ ((y : Nat) : Int) ∧ ((y : Nat) : Int) < (gN P : Int))) = true) → (k < 2147483648) ∧ (((0 ≤ ((k : Nat) : Int)) → (0 < gN P) ∧ (s < 2 ^ gR P) ∧ ((x < gN P) ∧ (s < 2 ^ gR P) ∧ (((lsF P s 60 x) < gN P) ∧ ((loF P s 60 0) < gN P) ∧ ((y < gN P) ∧ (s < 2 ^ gR P) ∧ (((lsF P s 60 y) < gN P) ∧ ((loF P s 60 0) < gN P) ∧ (((gX P (lsF P s 60 x) (loF P s 60 0)) < gN P) ∧ ((gX P (lsF P s 60 y) (loF P s 60 0)) < gN P) ∧ (k < 2147483648) ∧ (∀ c_1 : Nat → Nat → Int, ((∀ a, a ≠ 5 → a ≠ 6 → c_1 a = c a) ∧ PR P T c_1) → post (some (vi ((if k < 8 then T (gX P (lsF P s 60 x) (loF P s 60 0)) (gX P (lsF P s 60 y) (loF P s 60 0)) k else 0)))) (S nw nx g, 78 + gn, c_1)))))))) ∧ ((¬ (0 ≤ ((k : Nat) : Int))) → post (some (vi ((-1000000)))) (S nw nx g, 78 + gn, c)))))))) :
    SW G (j + 6) mX8_pBy 0 [some (vr (0)), some (vi (((s : Nat) : Int))), some (vi (((x : Nat) : Int))), some (vi (((y : Nat) : Int))), some (vi (((k : Nat) : Int))), none] [] (S nw nx g, 78 + gn, c) B0 post := by
  refine sw_aload_n (dX8_pBy.at 0 rfl) rfl rfl ?_
  refine sw_iload_n (dX8_pBy.at 1 rfl) rfl rfl ?_
  refine sw_callV (B' := B0) (As := [vi (((s : Nat) : Int))]) (mc := 0) (ms := 0) (dX8_pBy.at 2 rfl) lk_X8_258 (S_lt 0 (by decide)) (S_0 nw nx g) rfl rfl (Nat.le_of_ble_eq_true rfl) rfl (Nat.le_refl _) (Nat.le_refl _) ?_
  refine c_X8_isSet (x := ((s : Nat) : Int)) (j := j + 5) hnw hE hV hv.1 ?_
  replace hv := hv.2
  refine sw_if_eq (tgt := 22) (dX8_pBy.at 3 rfl) (by decide) (bz_rng _) (fun q => ?_) (fun q => ?_)
  · replace hv := hv.1 (bz_0 q)
    refine sw_ldc (z := (-1000000)) (dX8_pBy.at 11 rfl) kc_X8_196 (by decide) ?_
    exact sw_iret (dX8_pBy.at 12 rfl) rfl (Nat.le_refl _) (Nat.le_refl _) hv
  · replace hv := hv.2 (bz_n0 q)
    refine sw_aload_n (dX8_pBy.at 4 rfl) rfl rfl ?_
    refine sw_iload_n (dX8_pBy.at 5 rfl) rfl rfl ?_
    refine sw_iload_n (dX8_pBy.at 6 rfl) rfl rfl ?_
    refine sw_callV (B' := B0) (As := [vi (((x : Nat) : Int)), vi (((y : Nat) : Int))]) (mc := 0) (ms := 0) (dX8_pBy.at 7 rfl) lk_X8_157 (S_lt 0 (by decide)) (S_0 nw nx g) rfl rfl (Nat.le_of_ble_eq_true rfl) rfl (Nat.le_refl _) (Nat.le_refl _) ?_
    refine c_X8_arePair (x := ((x : Nat) : Int)) (y := ((y : Nat) : Int)) (j := j + 4) hnw hE hV hv.1 hv.2.1 ?_
    replace hv := hv.2.2
    refine sw_if_eq (tgt := 22) (dX8_pBy.at 8 rfl) (by decide) (bz_rng _) (fun q => ?_) (fun q => ?_)
    · replace hv := hv.1 (bz_0 q)
      refine sw_ldc (z := (-1000000)) (dX8_pBy.at 11 rfl) kc_X8_196 (by decide) ?_
      exact sw_iret (dX8_pBy.at 12 rfl) rfl (Nat.le_refl _) (Nat.le_refl _) hv
    · replace hv := hv.2 (bz_n0 q)
      refine sw_iload (dX8_pBy.at 9 rfl) rfl ?_
      refine sw_if_ge (tgt := 25) (dX8_pBy.at 10 rfl) (by decide) (nrng hv.1) (fun q => ?_) (fun q => ?_)
      · replace hv := hv.2.1 q
        refine sw_aload_n (dX8_pBy.at 13 rfl) rfl rfl ?_
        refine sw_iload_n (dX8_pBy.at 14 rfl) rfl rfl ?_
        refine sw_callV (B' := B0) (As := [vi (((s : Nat) : Int))]) (mc := 0) (ms := 0) (dX8_pBy.at 15 rfl) lk_X8_285 (S_lt 0 (by decide)) (S_0 nw nx g) rfl rfl (Nat.le_of_ble_eq_true rfl) rfl (Nat.le_refl _) (Nat.le_refl _) ?_
        refine c_X8_longestn (s := s) (j := j + 3) hnw hE hV hr hv.1 hv.2.1 ?_
        replace hv := hv.2.2
        refine sw_istore (lo' := [some (vr (0)), some (vi (((s : Nat) : Int))), some (vi (((x : Nat) : Int))), some (vi (((y : Nat) : Int))), some (vi (((k : Nat) : Int))), some (vi (((loF P s 60 0 : Nat) : Int)))]) (dX8_pBy.at 16 rfl) (by decide) rfl ?_
        refine sw_aload_n (dX8_pBy.at 17 rfl) rfl rfl ?_
        refine sw_aload_n (dX8_pBy.at 18 rfl) rfl rfl ?_
        refine sw_getR (dX8_pBy.at 19 rfl) fp_X8_65 (S_lt 0 (by decide)) (S_0 nw nx g) rfl rfl ?_
        refine sw_aload_n (dX8_pBy.at 20 rfl) rfl rfl ?_
        refine sw_iload_n (dX8_pBy.at 21 rfl) rfl rfl ?_
        refine sw_iload_n (dX8_pBy.at 22 rfl) rfl rfl ?_
        refine sw_callV (B' := B0) (As := [vi (((x : Nat) : Int)), vi (((s : Nat) : Int))]) (mc := 0) (ms := 0) (dX8_pBy.at 23 rfl) lk_X8_288 (S_lt 0 (by decide)) (S_0 nw nx g) rfl rfl (Nat.le_of_ble_eq_true rfl) rfl (Nat.le_refl _) (Nat.le_refl _) ?_
        refine c_X8_leastn (x := x) (s := s) (j := j + 3) hnw hE hV hr hv.1 hv.2.1 ?_
        replace hv := hv.2.2
        refine sw_iload (dX8_pBy.at 24 rfl) rfl ?_
        refine sw_callV (B' := B0) (As := [vi (((lsF P s 60 x : Nat) : Int)), vi (((loF P s 60 0 : Nat) : Int))]) (mc := 0) (ms := 0) (dX8_pBy.at 25 rfl) lk_X8_161 (S_e_lt hnw) (S_e hnw) rfl rfl (Nat.le_of_ble_eq_true rfl) rfl (Nat.le_refl _) (Nat.le_refl _) ?_
        refine c_X1_mulP (e := nw) (x := (lsF P s 60 x)) (y := (loF P s 60 0)) (j := j + 5) hnw hE hV hv.1 hv.2.1 ?_
        replace hv := hv.2.2
        refine sw_aload_n (dX8_pBy.at 26 rfl) rfl rfl ?_
        refine sw_getR (dX8_pBy.at 27 rfl) fp_X8_65 (S_lt 0 (by decide)) (S_0 nw nx g) rfl rfl ?_
        refine sw_aload_n (dX8_pBy.at 28 rfl) rfl rfl ?_
        refine sw_iload_n (dX8_pBy.at 29 rfl) rfl rfl ?_
        refine sw_iload_n (dX8_pBy.at 30 rfl) rfl rfl ?_
        refine sw_callV (B' := B0) (As := [vi (((y : Nat) : Int)), vi (((s : Nat) : Int))]) (mc := 0) (ms := 0) (dX8_pBy.at 31 rfl) lk_X8_288 (S_lt 0 (by decide)) (S_0 nw nx g) rfl rfl (Nat.le_of_ble_eq_true rfl) rfl (Nat.le_refl _) (Nat.le_refl _) ?_
        refine c_X8_leastn (x := y) (s := s) (j := j + 3) hnw hE hV hr hv.1 hv.2.1 ?_
        replace hv := hv.2.2
        refine sw_iload (dX8_pBy.at 32 rfl) rfl ?_
        refine sw_callV (B' := B0) (As := [vi (((lsF P s 60 y : Nat) : Int)), vi (((loF P s 60 0 : Nat) : Int))]) (mc := 0) (ms := 0) (dX8_pBy.at 33 rfl) lk_X8_161 (S_e_lt hnw) (S_e hnw) rfl rfl (Nat.le_of_ble_eq_true rfl) rfl (Nat.le_refl _) (Nat.le_refl _) ?_
        refine c_X1_mulP (e := nw) (x := (lsF P s 60 y)) (y := (loF P s 60 0)) (j := j + 5) hnw hE hV hv.1 hv.2.1 ?_
        replace hv := hv.2.2
        refine sw_iload (dX8_pBy.at 34 rfl) rfl ?_
        refine sw_callV (B' := B0) (As := [vi (((gX P (lsF P s 60 x) (loF P s 60 0) : Nat) : Int)), vi (((gX P (lsF P s 60 y) (loF P s 60 0) : Nat) : Int)), vi (((k : Nat) : Int))]) (mc := 0) (ms := 0) (dX8_pBy.at 35 rfl) lk_X8_219 (S_lt 0 (by decide)) (S_0 nw nx g) rfl rfl (Nat.le_of_ble_eq_true rfl) rfl (Nat.le_refl _) (Nat.le_refl _) ?_
        refine c_X8_pn (x := (gX P (lsF P s 60 x) (loF P s 60 0))) (y := (gX P (lsF P s 60 y) (loF P s 60 0))) (k := k) (j := j + 0) hnw hE hV hT hR hv.1 hv.2.1 hv.2.2.1 (fun c_1 h_1 => ?_)
        replace hv := hv.2.2.2 c_1 h_1
        exact sw_iret (dX8_pBy.at 36 rfl) rfl (Nat.le_refl _) (Nat.le_refl _) hv
      · replace hv := hv.2.2 q
        refine sw_ldc (z := (-1000000)) (dX8_pBy.at 11 rfl) kc_X8_196 (by decide) ?_
        exact sw_iret (dX8_pBy.at 12 rfl) rfl (Nat.le_refl _) (Nat.le_refl _) hv

set_option maxHeartbeats 2000000 in
set_option maxRecDepth 20000 in
theorem g_X8_pBy_0 {G : GG} {j nw nx gn : Nat} {g : Nat → Sh} {c : Nat → Nat → Int} {post : Option AV → AM → Prop} {s : Int} {x : Int} {y : Int} {k : Int} {P : GD} {T : PT} (hnw : nw = 21 ∨ nw = 35) (hE : EL c nw P) (hV : GV P) (hT : HT P T) (hR : PR P T c) (hr : hRb P)  (hv : (-2147483648 ≤ s ∧ s < 2147483648) ∧ ((((decide (0 < gN P ∧ 0 ≤ s ∧ s < ((2 ^ gR P : Nat) : Int))) = false) → post (some (vi ((-1000000)))) (S nw nx g, 78 + gn, c)) ∧ (((decide (0 < gN P ∧ 0 ≤ s ∧ s < ((2 ^ gR P : Nat) : Int))) = true) → (-2147483648 ≤ x ∧ x < 2147483648) ∧ (-2147483648 ≤ y ∧ y < 2147483648) ∧ ((((decide ((0 ≤ x ∧ x < (gN P : Int)) ∧ 0 ≤ y ∧ y < (gN P : Int))) = false) → post (some (vi ((-1000000)))) (S nw nx g, 78 + gn, c)) ∧ (((decide ((0 ≤ x ∧ x < (gN P : Int)) ∧ 0 ≤ y ∧ y < (gN P : Int))) = true) → (-2147483648 ≤ k ∧ k < 2147483648) ∧ (((0 ≤ k) → SW G (j + 6) mX8_pBy 27 [some (vr (0)), some (vi (s)), some (vi (x)), some (vi (y)), some (vi (k)), none] [vi (s), vr (0)] (S nw nx g, 78 + gn, c) B0 post) ∧ ((¬ (0 ≤ k)) → post (some (vi ((-1000000)))) (S nw nx g, 78 + gn, c)))))))) :
    SW G (j + 6) mX8_pBy 0 [some (vr (0)), some (vi (s)), some (vi (x)), some (vi (y)), some (vi (k)), none] [] (S nw nx g, 78 + gn, c) B0 post := by
  refine sw_aload_n (dX8_pBy.at 0 rfl) rfl rfl ?_
  refine sw_iload_n (dX8_pBy.at 1 rfl) rfl rfl ?_
  refine sw_callV (B' := B0) (As := [vi (s)]) (mc := 0) (ms := 0) (dX8_pBy.at 2 rfl) lk_X8_258 (S_lt 0 (by decide)) (S_0 nw nx g) rfl rfl (Nat.le_of_ble_eq_true rfl) rfl (Nat.le_refl _) (Nat.le_refl _) ?_
  refine c_X8_isSet (x := s) (j := j + 5) hnw hE hV hv.1 ?_
  replace hv := hv.2
  refine sw_if_eq (tgt := 22) (dX8_pBy.at 3 rfl) (by decide) (bz_rng _) (fun q => ?_) (fun q => ?_)
  · replace hv := hv.1 (bz_0 q)
    refine sw_ldc (z := (-1000000)) (dX8_pBy.at 11 rfl) kc_X8_196 (by decide) ?_
    exact sw_iret (dX8_pBy.at 12 rfl) rfl (Nat.le_refl _) (Nat.le_refl _) hv
  · replace hv := hv.2 (bz_n0 q)
    refine sw_aload_n (dX8_pBy.at 4 rfl) rfl rfl ?_
    refine sw_iload_n (dX8_pBy.at 5 rfl) rfl rfl ?_
    refine sw_iload_n (dX8_pBy.at 6 rfl) rfl rfl ?_
    refine sw_callV (B' := B0) (As := [vi (x), vi (y)]) (mc := 0) (ms := 0) (dX8_pBy.at 7 rfl) lk_X8_157 (S_lt 0 (by decide)) (S_0 nw nx g) rfl rfl (Nat.le_of_ble_eq_true rfl) rfl (Nat.le_refl _) (Nat.le_refl _) ?_
    refine c_X8_arePair (x := x) (y := y) (j := j + 4) hnw hE hV hv.1 hv.2.1 ?_
    replace hv := hv.2.2
    refine sw_if_eq (tgt := 22) (dX8_pBy.at 8 rfl) (by decide) (bz_rng _) (fun q => ?_) (fun q => ?_)
    · replace hv := hv.1 (bz_0 q)
      refine sw_ldc (z := (-1000000)) (dX8_pBy.at 11 rfl) kc_X8_196 (by decide) ?_
      exact sw_iret (dX8_pBy.at 12 rfl) rfl (Nat.le_refl _) (Nat.le_refl _) hv
    · replace hv := hv.2 (bz_n0 q)
      refine sw_iload (dX8_pBy.at 9 rfl) rfl ?_
      refine sw_if_ge (tgt := 25) (dX8_pBy.at 10 rfl) (by decide) hv.1 (fun q => ?_) (fun q => ?_)
      · replace hv := hv.2.1 q
        refine sw_aload_n (dX8_pBy.at 13 rfl) rfl rfl ?_
        refine sw_iload_n (dX8_pBy.at 14 rfl) rfl rfl ?_
        exact hv
      · replace hv := hv.2.2 q
        refine sw_ldc (z := (-1000000)) (dX8_pBy.at 11 rfl) kc_X8_196 (by decide) ?_
        exact sw_iret (dX8_pBy.at 12 rfl) rfl (Nat.le_refl _) (Nat.le_refl _) hv

set_option maxHeartbeats 4000000 in
theorem c_X8_pBy {G : GG} {j nw nx gn : Nat} {g : Nat → Sh} {c : Nat → Nat → Int} {post : Option AV → AM → Prop} {P : GD} {T : PT} {s x y k : Int} (hnw : nw = 21 ∨ nw = 35) (hE : EL c nw P) (hV : GV P) (hT : HT P T) (hR : PR P T c) (hr : hRb P) (p1 : -2147483648 ≤ s ∧ s < 2147483648) (p2 : -2147483648 ≤ x ∧ x < 2147483648) (p3 : -2147483648 ≤ y ∧ y < 2147483648) (p4 : -2147483648 ≤ k ∧ k < 2147483648) (K : ∀ c2 : Nat → Nat → Int, ((∀ a, a ≠ 5 → a ≠ 6 → c2 a = c a) ∧ PR P T c2) → post (some (vi (q_pBy P T s x y k))) (S nw nx g, 78 + gn, c2)) : SM G (j + 7) mX8_pBy [vr (0), vi (s), vi (x), vi (y), vi (k)] (S nw nx g, 78 + gn, c) 0 0 post := by
  refine sm_of wX8_pBy rfl (Nat.le_of_ble_eq_true rfl) ?_
  have hN60 := GV_N hV
  have hR5 := GV_R hV
  by_cases hv : (0 < gN P ∧ 0 ≤ s ∧ s < ((2 ^ gR P : Nat) : Int)) ∧ ((0 ≤ x ∧ x < (gN P : Int)) ∧ 0 ≤ y ∧ y < (gN P : Int)) ∧ 0 ≤ k
  · obtain ⟨s, rfl⟩ : ∃ n : Nat, s = (n : Int) := ⟨s.toNat, by omega⟩
    obtain ⟨x, rfl⟩ : ∃ n : Nat, x = (n : Int) := ⟨x.toNat, by omega⟩
    obtain ⟨y, rfl⟩ : ∃ n : Nat, y = (n : Int) := ⟨y.toNat, by omega⟩
    obtain ⟨k, rfl⟩ : ∃ n : Nat, k = (n : Int) := ⟨k.toNat, by omega⟩
    have e : q_pBy P T ((s : Nat) : Int) ((x : Nat) : Int) ((y : Nat) : Int) ((k : Nat) : Int) = if k < 8 then T (gX P (lsF P s 60 x) (loF P s 60 0)) (gX P (lsF P s 60 y) (loF P s 60 0)) k else 0 := by
      rw [q_pBy, if_pos hv]
      simp only [Int.toNat_natCast]
    rw [e] at K
    have f1 := lsF_lt hr hV (s := s) 60 x (by omega)
    have f2 := lsF_lt hr hV (s := s) 60 y (by omega)
    have f3 := loF_lt hV (s := s) (by omega) 60 0 (by omega)
    have f4 := hV.2.2.2.2.1 _ _ f1 f3
    have f5 := hV.2.2.2.2.1 _ _ f2 f3
    refine g_X8_pBy_0n hnw hE hV hT hR hr ?_
    refine ⟨?_, ⟨fun q => ?_, fun q => ⟨?_, ?_, ⟨fun q => ?_, fun q => ⟨?_, ⟨fun q => ⟨?_, ?_, ⟨?_, ?_, ⟨?_, ?_, ⟨?_, ?_, ⟨?_, ?_, ⟨?_, ?_, ?_, fun c_1 h_1 => ?_⟩⟩⟩⟩⟩⟩, fun q => ?_⟩⟩⟩⟩⟩⟩
    all_goals first | omega | assumption | (exfalso; simp only [decide_eq_true_eq, decide_eq_false_iff_not] at *; omega) | exact K c_1 h_1
  · have e : q_pBy P T s x y k = (-1000000) := by rw [q_pBy, if_neg hv]
    rw [e] at K
    refine g_X8_pBy_0 hnw hE hV hT hR hr ?_
    have K := K c ⟨fun _ _ _ => rfl, hR⟩
    refine ⟨?_, ⟨fun q => ?_, fun q => ⟨?_, ?_, ⟨fun q => ?_, fun q => ⟨?_, ⟨fun q => ?_, fun q => ?_⟩⟩⟩⟩⟩⟩
    all_goals first | exact K | omega | assumption | (exfalso; simp only [decide_eq_true_eq, decide_eq_false_iff_not] at *; omega)

theorem gTu_lt {P : GD} (hV : GV P) {x : Nat} (hx : x < gN P) : ∀ n, n ≤ gN P → gTu P x n < 2 ^ 60 := by
  have h60 := GV_N hV
  intro n
  induction n with
  | zero => intro _; exact Nat.lt_of_lt_of_le Nat.zero_lt_one (by decide)
  | succ n ih =>
    intro h
    rw [gTu]
    have h2 := hV.2.2.2.2.1 _ n (hV.2.2.2.2.1 _ x (hV.2.2.1 n (by omega)).2.2.2.1 hx) (by omega)
    refine Nat.or_lt_two_pow (ih (by omega)) ?_
    rw [Nat.one_mul]
    exact Nat.pow_lt_pow_right (by decide) (by omega)
theorem gTu_pos {P : GD} {x n : Nat} (h : 0 < n) : 0 < gTu P x n := by
  obtain ⟨m, rfl⟩ : ∃ m, n = m + 1 := ⟨n - 1, by omega⟩
  rw [gTu, Nat.one_mul]
  refine Nat.pos_of_ne_zero (fun e => ?_)
  have := congrArg (fun z => z.testBit (gX P (gX P (gI P m) x) m)) e
  simp [Nat.testBit_or, Nat.testBit_two_pow_self] at this
def q_conjugate (P : GD) (x : Int) : Int := if 0 ≤ x ∧ x < (gN P : Int) then ((lsb (gTu P x.toNat (gN P)) : Nat) : Int) else (-2)
set_option maxHeartbeats 2000000 in
set_option maxRecDepth 20000 in
theorem g_X8_conjugate_0n {G : GG} {j nw nx gn : Nat} {g : Nat → Sh} {c : Nat → Nat → Int} {post : Option AV → AM → Prop} {x : Nat} {P : GD} (hnw : nw = 21 ∨ nw = 35) (hE : EL c nw P) (hV : GV P)  (hv : (-2147483648 ≤ ((x : Nat) : Int) ∧ ((x : Nat) : Int) < 2147483648) ∧ ((((decide (0 ≤ ((x : Nat) : Int) ∧ ((x : Nat) : Int) < (gN P : Int))) = false) → post (some (vi ((-2)))) (S nw nx g, 78 + gn, c)) ∧ (((decide (0 ≤ ((x : Nat) : Int) ∧ ((x : Nat) : Int) < (gN P : Int))) = true) → (x < gN P) ∧ ((0 < (gTu P x (gN P))) ∧ ((gTu P x (gN P)) < 2 ^ 63) ∧ (post (some (vi (((lsb (gTu P x (gN P)) : Nat) : Int)))) (S nw nx g, 78 + gn, c)))))) :
    SW G (j + 2) mX8_conjugate 0 [some (vr (0)), some (vi (((x : Nat) : Int)))] [] (S nw nx g, 78 + gn, c) B0 post := by
  refine sw_aload_n (dX8_conjugate.at 0 rfl) rfl rfl ?_
  refine sw_iload_n (dX8_conjugate.at 1 rfl) rfl rfl ?_
  refine sw_callV (B' := B0) (As := [vi (((x : Nat) : Int))]) (mc := 0) (ms := 0) (dX8_conjugate.at 2 rfl) lk_X8_130 (S_lt 0 (by decide)) (S_0 nw nx g) rfl rfl (Nat.le_of_ble_eq_true rfl) rfl (Nat.le_refl _) (Nat.le_refl _) ?_
  refine c_X8_isElementP (x := ((x : Nat) : Int)) (j := j + 1) hnw hE hV hv.1 ?_
  replace hv := hv.2
  refine sw_if_eq (tgt := 19) (dX8_conjugate.at 3 rfl) (by decide) (bz_rng _) (fun q => ?_) (fun q => ?_)
  · replace hv := hv.1 (bz_0 q)
    refine sw_bipush (dX8_conjugate.at 9 rfl) (by decide) ?_
    exact sw_iret (dX8_conjugate.at 10 rfl) rfl (Nat.le_refl _) (Nat.le_refl _) hv
  · replace hv := hv.2 (bz_n0 q)
    refine sw_aload_n (dX8_conjugate.at 4 rfl) rfl rfl ?_
    refine sw_iload_n (dX8_conjugate.at 5 rfl) rfl rfl ?_
    refine sw_callV (B' := B0) (As := [vi (((x : Nat) : Int))]) (mc := 0) (ms := 0) (dX8_conjugate.at 6 rfl) lk_X8_295 (S_lt 0 (by decide)) (S_0 nw nx g) rfl rfl (Nat.le_of_ble_eq_true rfl) rfl (Nat.le_refl _) (Nat.le_refl _) ?_
    refine c_X8_turnedOnes (x := x) (j := j + 0) hnw hE hV hv.1 ?_
    replace hv := hv.2
    refine sw_callS (post' := post) (B' := B0) (As := [vl (((gTu P x (gN P) : Nat) : Int))]) (mc := 0) (ms := 0) (dX8_conjugate.at 7 rfl) lk_X8_245 rfl rfl (Nat.le_of_ble_eq_true rfl) rfl (Nat.le_refl _) (Nat.le_refl _) ?_
    refine c_J13_numberOfTrailingZeros_95d88 (n := (gTu P x (gN P))) (j := j + 0) hv.1 hv.2.1 ?_
    replace hv := hv.2.2
    refine sw_goto (tgt := 21) (dX8_conjugate.at 8 rfl) (by decide) ?_
    exact sw_iret (dX8_conjugate.at 10 rfl) rfl (Nat.le_refl _) (Nat.le_refl _) hv

set_option maxHeartbeats 2000000 in
set_option maxRecDepth 20000 in
theorem g_X8_conjugate_0 {G : GG} {j nw nx gn : Nat} {g : Nat → Sh} {c : Nat → Nat → Int} {post : Option AV → AM → Prop} {x : Int} {P : GD} (hnw : nw = 21 ∨ nw = 35) (hE : EL c nw P) (hV : GV P)  (hv : (-2147483648 ≤ x ∧ x < 2147483648) ∧ ((((decide (0 ≤ x ∧ x < (gN P : Int))) = false) → post (some (vi ((-2)))) (S nw nx g, 78 + gn, c)) ∧ (((decide (0 ≤ x ∧ x < (gN P : Int))) = true) → SW G (j + 2) mX8_conjugate 10 [some (vr (0)), some (vi (x))] [vi (x), vr (0)] (S nw nx g, 78 + gn, c) B0 post))) :
    SW G (j + 2) mX8_conjugate 0 [some (vr (0)), some (vi (x))] [] (S nw nx g, 78 + gn, c) B0 post := by
  refine sw_aload_n (dX8_conjugate.at 0 rfl) rfl rfl ?_
  refine sw_iload_n (dX8_conjugate.at 1 rfl) rfl rfl ?_
  refine sw_callV (B' := B0) (As := [vi (x)]) (mc := 0) (ms := 0) (dX8_conjugate.at 2 rfl) lk_X8_130 (S_lt 0 (by decide)) (S_0 nw nx g) rfl rfl (Nat.le_of_ble_eq_true rfl) rfl (Nat.le_refl _) (Nat.le_refl _) ?_
  refine c_X8_isElementP (x := x) (j := j + 1) hnw hE hV hv.1 ?_
  replace hv := hv.2
  refine sw_if_eq (tgt := 19) (dX8_conjugate.at 3 rfl) (by decide) (bz_rng _) (fun q => ?_) (fun q => ?_)
  · replace hv := hv.1 (bz_0 q)
    refine sw_bipush (dX8_conjugate.at 9 rfl) (by decide) ?_
    exact sw_iret (dX8_conjugate.at 10 rfl) rfl (Nat.le_refl _) (Nat.le_refl _) hv
  · replace hv := hv.2 (bz_n0 q)
    refine sw_aload_n (dX8_conjugate.at 4 rfl) rfl rfl ?_
    refine sw_iload_n (dX8_conjugate.at 5 rfl) rfl rfl ?_
    exact hv

set_option maxHeartbeats 4000000 in
theorem c_X8_conjugate {G : GG} {j nw nx gn : Nat} {g : Nat → Sh} {c : Nat → Nat → Int} {post : Option AV → AM → Prop} {P : GD} {x : Int} (hnw : nw = 21 ∨ nw = 35) (hE : EL c nw P) (hV : GV P) (p1 : -2147483648 ≤ x ∧ x < 2147483648) (K : post (some (vi (q_conjugate P x))) (S nw nx g, 78 + gn, c)) : SM G (j + 3) mX8_conjugate [vr (0), vi (x)] (S nw nx g, 78 + gn, c) 0 0 post := by
  refine sm_of wX8_conjugate rfl (Nat.le_of_ble_eq_true rfl) ?_
  have hN60 := GV_N hV
  have hR5 := GV_R hV
  by_cases hv : 0 ≤ x ∧ x < (gN P : Int)
  · obtain ⟨x, rfl⟩ : ∃ n : Nat, x = (n : Int) := ⟨x.toNat, by omega⟩
    have e : q_conjugate P ((x : Nat) : Int) = ((lsb (gTu P x (gN P)) : Nat) : Int) := by
      rw [q_conjugate, if_pos hv]
      simp only [Int.toNat_natCast]
    rw [e] at K
    have K1 : ∀ z : Int, z = (((lsb (gTu P x (gN P)) : Nat) : Int)) → post (some (vi z)) (S nw nx g, 78 + gn, c) := fun z h => h ▸ K
    have hx : x < gN P := by omega
    have fx := hV.2.2.1 x hx
    have t1 := gTu_lt hV hx (gN P) (Nat.le_refl _)
    have t2 := gTu_pos (P := P) (x := x) (n := gN P) (by omega)
    have t3 : gTu P x (gN P) < 2 ^ 63 := Nat.lt_trans t1 (by decide)
    refine g_X8_conjugate_0n hnw hE hV ?_
    refine ⟨?_, ⟨fun q => ?_, fun q => ⟨?_, ⟨?_, ?_, ?_⟩⟩⟩⟩
    all_goals first | exact K | omega | assumption | (exfalso; simp only [decide_eq_true_eq, decide_eq_false_iff_not] at *; omega) | (refine K1 _ ?_; first | (split <;> first | rfl | omega) | (simp [bz, *]; done))
  · have e : q_conjugate P x = (-2) := by rw [q_conjugate, if_neg hv]
    rw [e] at K
    refine g_X8_conjugate_0 hnw hE hV ?_
    refine ⟨?_, ⟨fun q => ?_, fun q => ?_⟩⟩
    all_goals first | exact K | omega | assumption | (exfalso; simp only [decide_eq_true_eq, decide_eq_false_iff_not] at *; omega)

def q_conjugates (P : GD) (x : Int) : Int := if 0 ≤ x ∧ x < (gN P : Int) then bcJ ((gTu P x.toNat (gN P) : Nat) : Int) else (-2)
set_option maxHeartbeats 2000000 in
set_option maxRecDepth 20000 in
theorem g_X8_conjugates_0n {G : GG} {j nw nx gn : Nat} {g : Nat → Sh} {c : Nat → Nat → Int} {post : Option AV → AM → Prop} {x : Nat} {P : GD} (hnw : nw = 21 ∨ nw = 35) (hE : EL c nw P) (hV : GV P)  (hv : (-2147483648 ≤ ((x : Nat) : Int) ∧ ((x : Nat) : Int) < 2147483648) ∧ ((((decide (0 ≤ ((x : Nat) : Int) ∧ ((x : Nat) : Int) < (gN P : Int))) = false) → post (some (vi ((-2)))) (S nw nx g, 78 + gn, c)) ∧ (((decide (0 ≤ ((x : Nat) : Int) ∧ ((x : Nat) : Int) < (gN P : Int))) = true) → (x < gN P) ∧ (post (some (vi (bcJ ((gTu P x (gN P) : Nat) : Int)))) (S nw nx g, 78 + gn, c))))) :
    SW G (j + 2) mX8_conjugates 0 [some (vr (0)), some (vi (((x : Nat) : Int)))] [] (S nw nx g, 78 + gn, c) B0 post := by
  refine sw_aload_n (dX8_conjugates.at 0 rfl) rfl rfl ?_
  refine sw_iload_n (dX8_conjugates.at 1 rfl) rfl rfl ?_
  refine sw_callV (B' := B0) (As := [vi (((x : Nat) : Int))]) (mc := 0) (ms := 0) (dX8_conjugates.at 2 rfl) lk_X8_130 (S_lt 0 (by decide)) (S_0 nw nx g) rfl rfl (Nat.le_of_ble_eq_true rfl) rfl (Nat.le_refl _) (Nat.le_refl _) ?_
  refine c_X8_isElementP (x := ((x : Nat) : Int)) (j := j + 1) hnw hE hV hv.1 ?_
  replace hv := hv.2
  refine sw_if_eq (tgt := 19) (dX8_conjugates.at 3 rfl) (by decide) (bz_rng _) (fun q => ?_) (fun q => ?_)
  · replace hv := hv.1 (bz_0 q)
    refine sw_bipush (dX8_conjugates.at 9 rfl) (by decide) ?_
    exact sw_iret (dX8_conjugates.at 10 rfl) rfl (Nat.le_refl _) (Nat.le_refl _) hv
  · replace hv := hv.2 (bz_n0 q)
    refine sw_aload_n (dX8_conjugates.at 4 rfl) rfl rfl ?_
    refine sw_iload_n (dX8_conjugates.at 5 rfl) rfl rfl ?_
    refine sw_callV (B' := B0) (As := [vi (((x : Nat) : Int))]) (mc := 0) (ms := 0) (dX8_conjugates.at 6 rfl) lk_X8_295 (S_lt 0 (by decide)) (S_0 nw nx g) rfl rfl (Nat.le_of_ble_eq_true rfl) rfl (Nat.le_refl _) (Nat.le_refl _) ?_
    refine c_X8_turnedOnes (x := x) (j := j + 0) hnw hE hV hv.1 ?_
    replace hv := hv.2
    refine sw_callS (post' := post) (B' := B0) (As := [vl (((gTu P x (gN P) : Nat) : Int))]) (mc := 0) (ms := 0) (dX8_conjugates.at 7 rfl) lk_X8_298 rfl rfl (Nat.le_of_ble_eq_true rfl) rfl (Nat.le_refl _) (Nat.le_refl _) ?_
    refine c_J13_bitCount_95d88 (z := ((gTu P x (gN P) : Nat) : Int)) (j := j + 1)  ?_
    refine sw_goto (tgt := 21) (dX8_conjugates.at 8 rfl) (by decide) ?_
    exact sw_iret (dX8_conjugates.at 10 rfl) rfl (Nat.le_refl _) (Nat.le_refl _) hv

set_option maxHeartbeats 2000000 in
set_option maxRecDepth 20000 in
theorem g_X8_conjugates_0 {G : GG} {j nw nx gn : Nat} {g : Nat → Sh} {c : Nat → Nat → Int} {post : Option AV → AM → Prop} {x : Int} {P : GD} (hnw : nw = 21 ∨ nw = 35) (hE : EL c nw P) (hV : GV P)  (hv : (-2147483648 ≤ x ∧ x < 2147483648) ∧ ((((decide (0 ≤ x ∧ x < (gN P : Int))) = false) → post (some (vi ((-2)))) (S nw nx g, 78 + gn, c)) ∧ (((decide (0 ≤ x ∧ x < (gN P : Int))) = true) → SW G (j + 2) mX8_conjugates 10 [some (vr (0)), some (vi (x))] [vi (x), vr (0)] (S nw nx g, 78 + gn, c) B0 post))) :
    SW G (j + 2) mX8_conjugates 0 [some (vr (0)), some (vi (x))] [] (S nw nx g, 78 + gn, c) B0 post := by
  refine sw_aload_n (dX8_conjugates.at 0 rfl) rfl rfl ?_
  refine sw_iload_n (dX8_conjugates.at 1 rfl) rfl rfl ?_
  refine sw_callV (B' := B0) (As := [vi (x)]) (mc := 0) (ms := 0) (dX8_conjugates.at 2 rfl) lk_X8_130 (S_lt 0 (by decide)) (S_0 nw nx g) rfl rfl (Nat.le_of_ble_eq_true rfl) rfl (Nat.le_refl _) (Nat.le_refl _) ?_
  refine c_X8_isElementP (x := x) (j := j + 1) hnw hE hV hv.1 ?_
  replace hv := hv.2
  refine sw_if_eq (tgt := 19) (dX8_conjugates.at 3 rfl) (by decide) (bz_rng _) (fun q => ?_) (fun q => ?_)
  · replace hv := hv.1 (bz_0 q)
    refine sw_bipush (dX8_conjugates.at 9 rfl) (by decide) ?_
    exact sw_iret (dX8_conjugates.at 10 rfl) rfl (Nat.le_refl _) (Nat.le_refl _) hv
  · replace hv := hv.2 (bz_n0 q)
    refine sw_aload_n (dX8_conjugates.at 4 rfl) rfl rfl ?_
    refine sw_iload_n (dX8_conjugates.at 5 rfl) rfl rfl ?_
    exact hv

set_option maxHeartbeats 4000000 in
theorem c_X8_conjugates {G : GG} {j nw nx gn : Nat} {g : Nat → Sh} {c : Nat → Nat → Int} {post : Option AV → AM → Prop} {P : GD} {x : Int} (hnw : nw = 21 ∨ nw = 35) (hE : EL c nw P) (hV : GV P) (p1 : -2147483648 ≤ x ∧ x < 2147483648) (K : post (some (vi (q_conjugates P x))) (S nw nx g, 78 + gn, c)) : SM G (j + 3) mX8_conjugates [vr (0), vi (x)] (S nw nx g, 78 + gn, c) 0 0 post := by
  refine sm_of wX8_conjugates rfl (Nat.le_of_ble_eq_true rfl) ?_
  have hN60 := GV_N hV
  have hR5 := GV_R hV
  by_cases hv : 0 ≤ x ∧ x < (gN P : Int)
  · obtain ⟨x, rfl⟩ : ∃ n : Nat, x = (n : Int) := ⟨x.toNat, by omega⟩
    have e : q_conjugates P ((x : Nat) : Int) = bcJ ((gTu P x (gN P) : Nat) : Int) := by
      rw [q_conjugates, if_pos hv]
      simp only [Int.toNat_natCast]
    rw [e] at K
    have K1 : ∀ z : Int, z = (bcJ ((gTu P x (gN P) : Nat) : Int)) → post (some (vi z)) (S nw nx g, 78 + gn, c) := fun z h => h ▸ K
    have hx : x < gN P := by omega
    have fx := hV.2.2.1 x hx
    have t1 := gTu_lt hV hx (gN P) (Nat.le_refl _)
    have t2 := gTu_pos (P := P) (x := x) (n := gN P) (by omega)
    have t3 : gTu P x (gN P) < 2 ^ 63 := Nat.lt_trans t1 (by decide)
    refine g_X8_conjugates_0n hnw hE hV ?_
    refine ⟨?_, ⟨fun q => ?_, fun q => ⟨?_, ?_⟩⟩⟩
    all_goals first | exact K | omega | assumption | (exfalso; simp only [decide_eq_true_eq, decide_eq_false_iff_not] at *; omega) | (refine K1 _ ?_; first | (split <;> first | rfl | omega) | (simp [bz, *]; done))
  · have e : q_conjugates P x = (-2) := by rw [q_conjugates, if_neg hv]
    rw [e] at K
    refine g_X8_conjugates_0 hnw hE hV ?_
    refine ⟨?_, ⟨fun q => ?_, fun q => ?_⟩⟩
    all_goals first | exact K | omega | assumption | (exfalso; simp only [decide_eq_true_eq, decide_eq_false_iff_not] at *; omega)

def euF (P : GD) (T : Nat) : Nat → Nat → Int → Int
  | 0, _, a => a
  | k + 1, z, a => euF P T k (z + 1) (if T.testBit z then a + (if gL P z % 2 = 0 then 1 else -1) else a)
set_option maxHeartbeats 2000000 in
set_option maxRecDepth 20000 in
theorem g_X8_euler_26 {G : GG} {j nw nx gn : Nat} {g : Nat → Sh} {c : Nat → Nat → Int} {post : Option AV → AM → Prop} {x : Nat} {y : Nat} {P : GD} {T : Nat} {z : Nat} {a : Int} (hnw : nw = 21 ∨ nw = 35) (hE : EL c nw P) (hV : GV P)  (hv : (z < 2147483648) ∧ (gN P < 2147483648) ∧ (((gN P ≤ z) → post (some (vi (a))) (S nw nx g, 78 + gn, c)) ∧ ((¬ (gN P ≤ z)) → (T < 9223372036854775808) ∧ (z < 64) ∧ ((((T.testBit z) = false) → SW G (j + 3) mX8_euler 26 [some (vr (0)), some (vi (((x : Nat) : Int))), some (vi (((y : Nat) : Int))), some (vl (((T : Nat) : Int))), none, some (vi (a)), some (vi (((z + 1 : Nat) : Int)))] [] (S nw nx g, 78 + gn, c) B0 post) ∧ (((T.testBit z) = true) → (z < gN P) ∧ (((gL P z) &&& 1 < 2147483648) ∧ ((((gL P z) &&& 1 ≠ 0) → SW G (j + 3) mX8_euler 26 [some (vr (0)), some (vi (((x : Nat) : Int))), some (vi (((y : Nat) : Int))), some (vl (((T : Nat) : Int))), none, some (vi (a + (-1))), some (vi (((z + 1 : Nat) : Int)))] [] (S nw nx g, 78 + gn, c) B0 post) ∧ (((gL P z) &&& 1 = 0) → SW G (j + 3) mX8_euler 26 [some (vr (0)), some (vi (((x : Nat) : Int))), some (vi (((y : Nat) : Int))), some (vl (((T : Nat) : Int))), none, some (vi (a + 1)), some (vi (((z + 1 : Nat) : Int)))] [] (S nw nx g, 78 + gn, c) B0 post)))))))) :
    SW G (j + 3) mX8_euler 26 [some (vr (0)), some (vi (((x : Nat) : Int))), some (vi (((y : Nat) : Int))), some (vl (((T : Nat) : Int))), none, some (vi (a)), some (vi (((z : Nat) : Int)))] [] (S nw nx g, 78 + gn, c) B0 post := by
  refine sw_iload (dX8_euler.at 16 rfl) rfl ?_
  refine sw_aload_n (dX8_euler.at 17 rfl) rfl rfl ?_
  refine sw_getR (dX8_euler.at 18 rfl) fp_X8_65 (S_lt 0 (by decide)) (S_0 nw nx g) rfl rfl ?_
  refine sw_getIE (w := ((gN P : Nat) : Int)) (dX8_euler.at 19 rfl) fp_X8_103 (S_e_lt hnw) (S_e hnw) rfl (EL_N hE) ?_
  refine sw_icmpN_ge z (gN P) (tgt := 78) (dX8_euler.at 20 rfl) (by decide) hv.1 hv.2.1 (fun q => ?_) (fun q => ?_)
  · replace hv := hv.2.2.1 q
    refine sw_iload (dX8_euler.at 41 rfl) rfl ?_
    exact sw_iret (dX8_euler.at 42 rfl) rfl (Nat.le_refl _) (Nat.le_refl _) hv
  · replace hv := hv.2.2.2 q
    refine sw_lload_n (dX8_euler.at 21 rfl) rfl rfl ?_
    refine sw_iload (dX8_euler.at 22 rfl) rfl ?_
    refine sw_callS (post' := post) (B' := B0) (As := [vl (((T : Nat) : Int)), vi (((z : Nat) : Int))]) (mc := 0) (ms := 0) (dX8_euler.at 23 rfl) lk_X8_185 rfl rfl (Nat.le_of_ble_eq_true rfl) rfl (Nat.le_refl _) (Nat.le_refl _) ?_
    refine c_X8_hasBit (s := T) (i := z) (j := j + 2) hv.1 hv.2.1 ?_
    replace hv := hv.2.2
    refine sw_if_eq (tgt := 72) (dX8_euler.at 24 rfl) (by decide) (bz_rng _) (fun q => ?_) (fun q => ?_)
    · replace hv := hv.1 (bz_0 q)
      refine sw_iinc (lo' := [some (vr (0)), some (vi (((x : Nat) : Int))), some (vi (((y : Nat) : Int))), some (vl (((T : Nat) : Int))), none, some (vi (a)), some (vi (((z + 1 : Nat) : Int)))]) (dX8_euler.at 39 rfl) rfl (by decide) rfl ?_
      refine sw_goto (tgt := 26) (dX8_euler.at 40 rfl) (by decide) ?_
      exact hv
    · replace hv := hv.2 (bz_n0 q)
      refine sw_iload (dX8_euler.at 25 rfl) rfl ?_
      refine sw_aload_n (dX8_euler.at 26 rfl) rfl rfl ?_
      refine sw_getR (dX8_euler.at 27 rfl) fp_X8_65 (S_lt 0 (by decide)) (S_0 nw nx g) rfl rfl ?_
      refine sw_getR (dX8_euler.at 28 rfl) fp_X8_133 (S_e_lt hnw) (S_e hnw) rfl rfl ?_
      refine sw_iload (dX8_euler.at 29 rfl) rfl ?_
      refine sw_ialdN z (w := ((gL P z : Nat) : Int)) (dX8_euler.at 30 rfl) (S_ek_lt hnw (by decide)) (S_e_2 hnw) (by decide) (GV_lt hV hv.1) (EL_L hE hv.1) ?_
      replace hv := hv.2
      refine sw_iconst (dX8_euler.at 31 rfl) ?_
      refine sw_andN (gL P z) 1 (dX8_euler.at 32 rfl) ?_
      refine sw_ifN_ne ((gL P z) &&& 1) (tgt := 68) (dX8_euler.at 33 rfl) (by decide) hv.1 (fun q => ?_) (fun q => ?_)
      · replace hv := hv.2.1 q
        refine sw_iconst (dX8_euler.at 36 rfl) ?_
        refine sw_iadd (dX8_euler.at 37 rfl) ?_
        refine sw_istore (lo' := [some (vr (0)), some (vi (((x : Nat) : Int))), some (vi (((y : Nat) : Int))), some (vl (((T : Nat) : Int))), none, some (vi (a + (-1))), some (vi (((z : Nat) : Int)))]) (dX8_euler.at 38 rfl) (by decide) rfl ?_
        refine sw_iinc (lo' := [some (vr (0)), some (vi (((x : Nat) : Int))), some (vi (((y : Nat) : Int))), some (vl (((T : Nat) : Int))), none, some (vi (a + (-1))), some (vi (((z + 1 : Nat) : Int)))]) (dX8_euler.at 39 rfl) rfl (by decide) rfl ?_
        refine sw_goto (tgt := 26) (dX8_euler.at 40 rfl) (by decide) ?_
        exact hv
      · replace hv := hv.2.2 q
        refine sw_iconst (dX8_euler.at 34 rfl) ?_
        refine sw_goto (tgt := 69) (dX8_euler.at 35 rfl) (by decide) ?_
        refine sw_iadd (dX8_euler.at 37 rfl) ?_
        refine sw_istore (lo' := [some (vr (0)), some (vi (((x : Nat) : Int))), some (vi (((y : Nat) : Int))), some (vl (((T : Nat) : Int))), none, some (vi (a + 1)), some (vi (((z : Nat) : Int)))]) (dX8_euler.at 38 rfl) (by decide) rfl ?_
        refine sw_iinc (lo' := [some (vr (0)), some (vi (((x : Nat) : Int))), some (vi (((y : Nat) : Int))), some (vl (((T : Nat) : Int))), none, some (vi (a + 1)), some (vi (((z + 1 : Nat) : Int)))]) (dX8_euler.at 39 rfl) rfl (by decide) rfl ?_
        refine sw_goto (tgt := 26) (dX8_euler.at 40 rfl) (by decide) ?_
        exact hv

set_option maxHeartbeats 4000000 in
theorem lp_X8_euler_26 {G : GG} {j nw nx gn : Nat} {g : Nat → Sh} {c : Nat → Nat → Int} {post : Option AV → AM → Prop} {P : GD} {T : Nat} {x : Nat} {y : Nat} (hnw : nw = 21 ∨ nw = 35) (hE : EL c nw P) (hV : GV P) (hT : T < 2 ^ 60) : ∀ (k : Nat) (z : Nat) (a : Int), z + k = gN P → (post (some (vi (euF P T k z a))) (S nw nx g, 78 + gn, c)) → SW G (j + 3) mX8_euler 26 [some (vr (0)), some (vi (((x : Nat) : Int))), some (vi (((y : Nat) : Int))), some (vl (((T : Nat) : Int))), none, some (vi (a)), some (vi (((z : Nat) : Int)))] [] (S nw nx g, 78 + gn, c) B0 post := by
  intro k
  induction k with
  | zero =>
    intro z a hrel  K
    have h60 := GV_N hV
    simp only [euF] at K
    refine g_X8_euler_26 hnw hE hV  ?_
    refine ⟨?_, ?_, ⟨fun q => ?_, fun q => ⟨?_, ?_, ⟨fun q => ?_, fun q => ⟨?_, ⟨?_, ⟨fun q => ?_, fun q => ?_⟩⟩⟩⟩⟩⟩⟩
    all_goals first | omega | exact K | (exfalso; omega) | (simp only [*, if_true, if_false, ite_true, ite_false, Bool.false_eq_true, and_true, true_and, and_false, false_and, and_self, or_true, true_or, or_false, false_or, Bool.and_true, Bool.and_false, Bool.true_and, Bool.false_and, decide_true, decide_false, eq_self, not_true_eq_false, not_false_eq_true, ne_eq, reduceCtorEq] at K; exact K)
  | succ k ih =>
    intro z a hrel  K
    rw [euF] at K
    have h60 := GV_N hV
    have h63 := lt63 hT
    have f9 := (hV.2.2.1 z (by omega)).1
    refine g_X8_euler_26 hnw hE hV  ?_
    
    rw [Nat.and_one_is_mod]
    refine ⟨?_, ?_, ⟨fun q => ?_, fun q => ⟨?_, ?_, ⟨fun q => ?_, fun q => ⟨?_, ⟨?_, ⟨fun q => ?_, fun q => ?_⟩⟩⟩⟩⟩⟩⟩
    all_goals first | omega | exact h63 | (exfalso; omega) | (simp only [*, if_true, if_false, Bool.false_eq_true, eq_self] at K; exact ih _ _ (by omega) K) | (have e9 : ¬ gL P z % 2 = 0 := (by omega); simp only [*, if_true, if_false, Bool.false_eq_true, eq_self] at K; exact ih _ _ (by omega) K)

def q_euler (P : GD) (x y : Int) : Int := if (0 ≤ x ∧ x < (gN P : Int)) ∧ 0 ≤ y ∧ y < (gN P : Int) then euF P (bitsU (pBt P x.toNat y.toNat) (gN P)) (gN P) 0 0 else (-2000)
set_option maxHeartbeats 2000000 in
set_option maxRecDepth 20000 in
theorem g_X8_euler_0n {G : GG} {j nw nx gn : Nat} {g : Nat → Sh} {c : Nat → Nat → Int} {post : Option AV → AM → Prop} {x : Nat} {y : Nat} {P : GD} (hnw : nw = 21 ∨ nw = 35) (hE : EL c nw P) (hV : GV P)  (hv : (-2147483648 ≤ ((x : Nat) : Int) ∧ ((x : Nat) : Int) < 2147483648) ∧ (-2147483648 ≤ ((y : Nat) : Int) ∧ ((y : Nat) : Int) < 2147483648) ∧ ((((decide ((0 ≤ ((x : Nat) : Int) ∧ ((x : Nat) : Int) < (gN P : Int)) ∧ 0 ≤ ((y : Nat) : Int) ∧ ((y : Nat) : Int) < (gN P : Int))) = true) → (x < gN P) ∧ (y < gN P) ∧ (SW G (j + 3) mX8_euler 26 [some (vr (0)), some (vi (((x : Nat) : Int))), some (vi (((y : Nat) : Int))), some (vl (((bitsU (pBt P x y) (gN P) : Nat) : Int))), none, some (vi (0)), some (vi (0))] [] (S nw nx g, 78 + gn, c) B0 post)) ∧ (((decide ((0 ≤ ((x : Nat) : Int) ∧ ((x : Nat) : Int) < (gN P : Int)) ∧ 0 ≤ ((y : Nat) : Int) ∧ ((y : Nat) : Int) < (gN P : Int))) = false) → post (some (vi ((-2000)))) (S nw nx g, 78 + gn, c)))) :
    SW G (j + 3) mX8_euler 0 [some (vr (0)), some (vi (((x : Nat) : Int))), some (vi (((y : Nat) : Int))), none, none, none, none] [] (S nw nx g, 78 + gn, c) B0 post := by
  refine sw_aload_n (dX8_euler.at 0 rfl) rfl rfl ?_
  refine sw_iload_n (dX8_euler.at 1 rfl) rfl rfl ?_
  refine sw_iload_n (dX8_euler.at 2 rfl) rfl rfl ?_
  refine sw_callV (B' := B0) (As := [vi (((x : Nat) : Int)), vi (((y : Nat) : Int))]) (mc := 0) (ms := 0) (dX8_euler.at 3 rfl) lk_X8_157 (S_lt 0 (by decide)) (S_0 nw nx g) rfl rfl (Nat.le_of_ble_eq_true rfl) rfl (Nat.le_refl _) (Nat.le_refl _) ?_
  refine c_X8_arePair (x := ((x : Nat) : Int)) (y := ((y : Nat) : Int)) (j := j + 1) hnw hE hV hv.1 hv.2.1 ?_
  replace hv := hv.2.2
  refine sw_if_ne (tgt := 13) (dX8_euler.at 4 rfl) (by decide) (bz_rng _) (fun q => ?_) (fun q => ?_)
  · replace hv := hv.1 (bz_1 q)
    refine sw_aload_n (dX8_euler.at 7 rfl) rfl rfl ?_
    refine sw_iload_n (dX8_euler.at 8 rfl) rfl rfl ?_
    refine sw_iload_n (dX8_euler.at 9 rfl) rfl rfl ?_
    refine sw_callV (B' := B0) (As := [vi (((x : Nat) : Int)), vi (((y : Nat) : Int))]) (mc := 0) (ms := 0) (dX8_euler.at 10 rfl) lk_X8_182 (S_lt 0 (by decide)) (S_0 nw nx g) rfl rfl (Nat.le_of_ble_eq_true rfl) rfl (Nat.le_refl _) (Nat.le_refl _) ?_
    refine c_X8_between (x := x) (y := y) (j := j + 0) hnw hE hV hv.1 hv.2.1 ?_
    replace hv := hv.2.2
    refine sw_lstore_n (lo' := [some (vr (0)), some (vi (((x : Nat) : Int))), some (vi (((y : Nat) : Int))), some (vl (((bitsU (pBt P x y) (gN P) : Nat) : Int))), none, none, none]) (dX8_euler.at 11 rfl) rfl (by decide) rfl ?_
    refine sw_iconst (dX8_euler.at 12 rfl) ?_
    refine sw_istore (lo' := [some (vr (0)), some (vi (((x : Nat) : Int))), some (vi (((y : Nat) : Int))), some (vl (((bitsU (pBt P x y) (gN P) : Nat) : Int))), none, some (vi (0)), none]) (dX8_euler.at 13 rfl) (by decide) rfl ?_
    refine sw_iconst (dX8_euler.at 14 rfl) ?_
    refine sw_istore (lo' := [some (vr (0)), some (vi (((x : Nat) : Int))), some (vi (((y : Nat) : Int))), some (vl (((bitsU (pBt P x y) (gN P) : Nat) : Int))), none, some (vi (0)), some (vi (0))]) (dX8_euler.at 15 rfl) (by decide) rfl ?_
    exact hv
  · replace hv := hv.2 (bz_n1 q)
    refine sw_sipush (dX8_euler.at 5 rfl) (by decide) ?_
    exact sw_iret (dX8_euler.at 6 rfl) rfl (Nat.le_refl _) (Nat.le_refl _) hv

set_option maxHeartbeats 2000000 in
set_option maxRecDepth 20000 in
theorem g_X8_euler_0 {G : GG} {j nw nx gn : Nat} {g : Nat → Sh} {c : Nat → Nat → Int} {post : Option AV → AM → Prop} {x : Int} {y : Int} {P : GD} (hnw : nw = 21 ∨ nw = 35) (hE : EL c nw P) (hV : GV P)  (hv : (-2147483648 ≤ x ∧ x < 2147483648) ∧ (-2147483648 ≤ y ∧ y < 2147483648) ∧ ((((decide ((0 ≤ x ∧ x < (gN P : Int)) ∧ 0 ≤ y ∧ y < (gN P : Int))) = true) → SW G (j + 3) mX8_euler 16 [some (vr (0)), some (vi (x)), some (vi (y)), none, none, none, none] [vi (y), vi (x), vr (0)] (S nw nx g, 78 + gn, c) B0 post) ∧ (((decide ((0 ≤ x ∧ x < (gN P : Int)) ∧ 0 ≤ y ∧ y < (gN P : Int))) = false) → post (some (vi ((-2000)))) (S nw nx g, 78 + gn, c)))) :
    SW G (j + 3) mX8_euler 0 [some (vr (0)), some (vi (x)), some (vi (y)), none, none, none, none] [] (S nw nx g, 78 + gn, c) B0 post := by
  refine sw_aload_n (dX8_euler.at 0 rfl) rfl rfl ?_
  refine sw_iload_n (dX8_euler.at 1 rfl) rfl rfl ?_
  refine sw_iload_n (dX8_euler.at 2 rfl) rfl rfl ?_
  refine sw_callV (B' := B0) (As := [vi (x), vi (y)]) (mc := 0) (ms := 0) (dX8_euler.at 3 rfl) lk_X8_157 (S_lt 0 (by decide)) (S_0 nw nx g) rfl rfl (Nat.le_of_ble_eq_true rfl) rfl (Nat.le_refl _) (Nat.le_refl _) ?_
  refine c_X8_arePair (x := x) (y := y) (j := j + 1) hnw hE hV hv.1 hv.2.1 ?_
  replace hv := hv.2.2
  refine sw_if_ne (tgt := 13) (dX8_euler.at 4 rfl) (by decide) (bz_rng _) (fun q => ?_) (fun q => ?_)
  · replace hv := hv.1 (bz_1 q)
    refine sw_aload_n (dX8_euler.at 7 rfl) rfl rfl ?_
    refine sw_iload_n (dX8_euler.at 8 rfl) rfl rfl ?_
    refine sw_iload_n (dX8_euler.at 9 rfl) rfl rfl ?_
    exact hv
  · replace hv := hv.2 (bz_n1 q)
    refine sw_sipush (dX8_euler.at 5 rfl) (by decide) ?_
    exact sw_iret (dX8_euler.at 6 rfl) rfl (Nat.le_refl _) (Nat.le_refl _) hv

set_option maxHeartbeats 4000000 in
theorem c_X8_euler {G : GG} {j nw nx gn : Nat} {g : Nat → Sh} {c : Nat → Nat → Int} {post : Option AV → AM → Prop} {P : GD} {x y : Int} (hnw : nw = 21 ∨ nw = 35) (hE : EL c nw P) (hV : GV P) (p1 : -2147483648 ≤ x ∧ x < 2147483648) (p2 : -2147483648 ≤ y ∧ y < 2147483648) (K : post (some (vi (q_euler P x y))) (S nw nx g, 78 + gn, c)) : SM G (j + 4) mX8_euler [vr (0), vi (x), vi (y)] (S nw nx g, 78 + gn, c) 0 0 post := by
  refine sm_of wX8_euler rfl (Nat.le_of_ble_eq_true rfl) ?_
  have hN60 := GV_N hV
  have hR5 := GV_R hV
  by_cases hv : (0 ≤ x ∧ x < (gN P : Int)) ∧ 0 ≤ y ∧ y < (gN P : Int)
  · obtain ⟨x, rfl⟩ : ∃ n : Nat, x = (n : Int) := ⟨x.toNat, by omega⟩
    obtain ⟨y, rfl⟩ : ∃ n : Nat, y = (n : Int) := ⟨y.toNat, by omega⟩
    have e : q_euler P ((x : Nat) : Int) ((y : Nat) : Int) = euF P (bitsU (pBt P x y) (gN P)) (gN P) 0 0 := by
      rw [q_euler, if_pos hv]
      simp only [Int.toNat_natCast]
    rw [e] at K
    have K1 : ∀ z : Int, z = (euF P (bitsU (pBt P x y) (gN P)) (gN P) 0 0) → post (some (vi z)) (S nw nx g, 78 + gn, c) := fun z h => h ▸ K
    have hx : x < gN P := by omega
    have fx := hV.2.2.1 x hx
    have hy : y < gN P := by omega
    have fy := hV.2.2.1 y hy
    refine g_X8_euler_0n hnw hE hV ?_
    refine ⟨?_, ?_, ⟨fun q => ⟨?_, ?_, ?_⟩, fun q => ?_⟩⟩
    all_goals first | exact lp_X8_euler_26 hnw hE hV (bitsU_63 hN60) (gN P) 0 0 (by omega) K | omega | assumption | (exfalso; simp only [decide_eq_true_eq, decide_eq_false_iff_not] at *; omega)
  · have e : q_euler P x y = (-2000) := by rw [q_euler, if_neg hv]
    rw [e] at K
    refine g_X8_euler_0 hnw hE hV ?_
    refine ⟨?_, ?_, ⟨fun q => ?_, fun q => ?_⟩⟩
    all_goals first | exact K | omega | assumption | (exfalso; simp only [decide_eq_true_eq, decide_eq_false_iff_not] at *; omega)

set_option maxHeartbeats 2000000 in
set_option maxRecDepth 20000 in
theorem g_X8_coset_20 {G : GG} {j nw nx gn : Nat} {g : Nat → Sh} {c : Nat → Nat → Int} {post : Option AV → AM → Prop} {s : Nat} {i : Nat} {P : GD} {z : Nat} {u : Nat} (hnw : nw = 21 ∨ nw = 35) (hE : EL c nw P) (hV : GV P)  (hv : (z < 2147483648) ∧ (gN P < 2147483648) ∧ (((gN P ≤ z) → post (some (vi ((-1)))) (S nw nx g, 78 + gn, c)) ∧ ((¬ (gN P ≤ z)) → (z < gN P) ∧ (((gE P z) &&& s < 2147483648) ∧ ((((gE P z) &&& s ≠ 0) → SW G (j + 1) mX8_coset 20 [some (vr (0)), some (vi (((s : Nat) : Int))), some (vi (((i : Nat) : Int))), some (vi (((u : Nat) : Int))), some (vi (((z + 1 : Nat) : Int)))] [] (S nw nx g, 78 + gn, c) B0 post) ∧ (((gE P z) &&& s = 0) → (u < 2147483648) ∧ (i < 2147483648) ∧ (((u ≠ i) → SW G (j + 1) mX8_coset 20 [some (vr (0)), some (vi (((s : Nat) : Int))), some (vi (((i : Nat) : Int))), some (vi (((u + 1 : Nat) : Int))), some (vi (((z + 1 : Nat) : Int)))] [] (S nw nx g, 78 + gn, c) B0 post) ∧ ((u = i) → post (some (vi (((z : Nat) : Int)))) (S nw nx g, 78 + gn, c))))))))) :
    SW G (j + 1) mX8_coset 20 [some (vr (0)), some (vi (((s : Nat) : Int))), some (vi (((i : Nat) : Int))), some (vi (((u : Nat) : Int))), some (vi (((z : Nat) : Int)))] [] (S nw nx g, 78 + gn, c) B0 post := by
  refine sw_iload (dX8_coset.at 12 rfl) rfl ?_
  refine sw_aload_n (dX8_coset.at 13 rfl) rfl rfl ?_
  refine sw_getR (dX8_coset.at 14 rfl) fp_X8_65 (S_lt 0 (by decide)) (S_0 nw nx g) rfl rfl ?_
  refine sw_getIE (w := ((gN P : Nat) : Int)) (dX8_coset.at 15 rfl) fp_X8_103 (S_e_lt hnw) (S_e hnw) rfl (EL_N hE) ?_
  refine sw_icmpN_ge z (gN P) (tgt := 64) (dX8_coset.at 16 rfl) (by decide) hv.1 hv.2.1 (fun q => ?_) (fun q => ?_)
  · replace hv := hv.2.2.1 q
    refine sw_iconst (dX8_coset.at 33 rfl) ?_
    exact sw_iret (dX8_coset.at 34 rfl) rfl (Nat.le_refl _) (Nat.le_refl _) hv
  · replace hv := hv.2.2.2 q
    refine sw_aload_n (dX8_coset.at 17 rfl) rfl rfl ?_
    refine sw_getR (dX8_coset.at 18 rfl) fp_X8_65 (S_lt 0 (by decide)) (S_0 nw nx g) rfl rfl ?_
    refine sw_getR (dX8_coset.at 19 rfl) fp_X8_261 (S_e_lt hnw) (S_e hnw) rfl rfl ?_
    refine sw_iload (dX8_coset.at 20 rfl) rfl ?_
    refine sw_ialdN z (w := ((gE P z : Nat) : Int)) (dX8_coset.at 21 rfl) (S_ek_lt hnw (by decide)) (S_e_9 hnw) (by decide) (GV_lt hV hv.1) (EL_E hE hv.1) ?_
    replace hv := hv.2
    refine sw_iload_n (dX8_coset.at 22 rfl) rfl rfl ?_
    refine sw_andN (gE P z) s (dX8_coset.at 23 rfl) ?_
    refine sw_ifN_ne ((gE P z) &&& s) (tgt := 58) (dX8_coset.at 24 rfl) (by decide) hv.1 (fun q => ?_) (fun q => ?_)
    · replace hv := hv.2.1 q
      refine sw_iinc (lo' := [some (vr (0)), some (vi (((s : Nat) : Int))), some (vi (((i : Nat) : Int))), some (vi (((u : Nat) : Int))), some (vi (((z + 1 : Nat) : Int)))]) (dX8_coset.at 31 rfl) rfl (by decide) rfl ?_
      refine sw_goto (tgt := 20) (dX8_coset.at 32 rfl) (by decide) ?_
      exact hv
    · replace hv := hv.2.2 q
      refine sw_iload_n (dX8_coset.at 25 rfl) rfl rfl ?_
      refine sw_iload_n (dX8_coset.at 26 rfl) rfl rfl ?_
      refine sw_icmpN_ne u i (tgt := 55) (dX8_coset.at 27 rfl) (by decide) hv.1 hv.2.1 (fun q => ?_) (fun q => ?_)
      · replace hv := hv.2.2.1 q
        refine sw_iinc (lo' := [some (vr (0)), some (vi (((s : Nat) : Int))), some (vi (((i : Nat) : Int))), some (vi (((u + 1 : Nat) : Int))), some (vi (((z : Nat) : Int)))]) (dX8_coset.at 30 rfl) rfl (by decide) rfl ?_
        refine sw_iinc (lo' := [some (vr (0)), some (vi (((s : Nat) : Int))), some (vi (((i : Nat) : Int))), some (vi (((u + 1 : Nat) : Int))), some (vi (((z + 1 : Nat) : Int)))]) (dX8_coset.at 31 rfl) rfl (by decide) rfl ?_
        refine sw_goto (tgt := 20) (dX8_coset.at 32 rfl) (by decide) ?_
        exact hv
      · replace hv := hv.2.2.2 q
        refine sw_iload (dX8_coset.at 28 rfl) rfl ?_
        exact sw_iret (dX8_coset.at 29 rfl) rfl (Nat.le_refl _) (Nat.le_refl _) hv

set_option maxHeartbeats 4000000 in
theorem lp_X8_coset_20 {G : GG} {j nw nx gn : Nat} {g : Nat → Sh} {c : Nat → Nat → Int} {post : Option AV → AM → Prop} {P : GD} {s : Nat} {i : Nat} (hnw : nw = 21 ∨ nw = 35) (hE : EL c nw P) (hV : GV P) (hi : i < 2147483648) : ∀ (k : Nat) (z : Nat) (u : Nat), z + k = gN P → (u ≤ z) → (post (some (vi (kthF (pCos P s) i k z u))) (S nw nx g, 78 + gn, c)) → SW G (j + 1) mX8_coset 20 [some (vr (0)), some (vi (((s : Nat) : Int))), some (vi (((i : Nat) : Int))), some (vi (((u : Nat) : Int))), some (vi (((z : Nat) : Int)))] [] (S nw nx g, 78 + gn, c) B0 post := by
  intro k
  induction k with
  | zero =>
    intro z u hrel hu K
    have h60 := GV_N hV
    simp only [kthF, pCos] at K
    refine g_X8_coset_20 hnw hE hV  ?_
    refine ⟨?_, ?_, ⟨fun q => ?_, fun q => ⟨?_, ⟨?_, ⟨fun q => ?_, fun q => ⟨?_, ?_, ⟨fun q => ?_, fun q => ?_⟩⟩⟩⟩⟩⟩⟩
    all_goals first | omega | exact K | (exfalso; omega) | (simp only [*, if_true, if_false, ite_true, ite_false, Bool.false_eq_true, and_true, true_and, and_false, false_and, and_self, or_true, true_or, or_false, false_or, Bool.and_true, Bool.and_false, Bool.true_and, Bool.false_and, decide_true, decide_false, eq_self, not_true_eq_false, not_false_eq_true, ne_eq, reduceCtorEq] at K; exact K)
  | succ k ih =>
    intro z u hrel hu K
    have h60 := GV_N hV
    have s9 := and_small (b := s) (hV.2.2.1 z (by omega)).2.2.2.2.2.1
    simp only [kthF, pCos] at K
    refine g_X8_coset_20 hnw hE hV  ?_
    refine ⟨?_, ?_, ⟨fun q => ?_, fun q => ⟨?_, ⟨?_, ⟨fun q => ?_, fun q => ⟨?_, ?_, ⟨fun q => ?_, fun q => ?_⟩⟩⟩⟩⟩⟩⟩
    all_goals first | omega | assumption | (exfalso; omega) | (simp only [*, if_true, if_false, ite_true, ite_false, Bool.false_eq_true, and_true, true_and, and_false, false_and, and_self, or_true, true_or, or_false, false_or, Bool.and_true, Bool.and_false, Bool.true_and, Bool.false_and, decide_true, decide_false, eq_self, not_true_eq_false, not_false_eq_true, ne_eq, reduceCtorEq] at K; first | exact K | exact ih _ _ (by omega) (by first | assumption | omega) K) | exact ih _ _ (by omega) (by first | assumption | omega) K

def q_coset (P : GD) (s i : Int) : Int := if (0 < gN P ∧ 0 ≤ s ∧ s < ((2 ^ gR P : Nat) : Int)) ∧ 0 ≤ i then kthF (pCos P s.toNat) i.toNat (gN P) 0 0 else (-2)
set_option maxHeartbeats 2000000 in
set_option maxRecDepth 20000 in
theorem g_X8_coset_0n {G : GG} {j nw nx gn : Nat} {g : Nat → Sh} {c : Nat → Nat → Int} {post : Option AV → AM → Prop} {s : Nat} {i : Nat} {P : GD} (hnw : nw = 21 ∨ nw = 35) (hE : EL c nw P) (hV : GV P)  (hv : (-2147483648 ≤ ((s : Nat) : Int) ∧ ((s : Nat) : Int) < 2147483648) ∧ ((((decide (0 < gN P ∧ 0 ≤ ((s : Nat) : Int) ∧ ((s : Nat) : Int) < ((2 ^ gR P : Nat) : Int))) = false) → post (some (vi ((-2)))) (S nw nx g, 78 + gn, c)) ∧ (((decide (0 < gN P ∧ 0 ≤ ((s : Nat) : Int) ∧ ((s : Nat) : Int) < ((2 ^ gR P : Nat) : Int))) = true) → (i < 2147483648) ∧ (((0 ≤ ((i : Nat) : Int)) → SW G (j + 1) mX8_coset 20 [some (vr (0)), some (vi (((s : Nat) : Int))), some (vi (((i : Nat) : Int))), some (vi (0)), some (vi (0))] [] (S nw nx g, 78 + gn, c) B0 post) ∧ ((¬ (0 ≤ ((i : Nat) : Int))) → post (some (vi ((-2)))) (S nw nx g, 78 + gn, c)))))) :
    SW G (j + 1) mX8_coset 0 [some (vr (0)), some (vi (((s : Nat) : Int))), some (vi (((i : Nat) : Int))), none, none] [] (S nw nx g, 78 + gn, c) B0 post := by
  refine sw_aload_n (dX8_coset.at 0 rfl) rfl rfl ?_
  refine sw_iload_n (dX8_coset.at 1 rfl) rfl rfl ?_
  refine sw_callV (B' := B0) (As := [vi (((s : Nat) : Int))]) (mc := 0) (ms := 0) (dX8_coset.at 2 rfl) lk_X8_258 (S_lt 0 (by decide)) (S_0 nw nx g) rfl rfl (Nat.le_of_ble_eq_true rfl) rfl (Nat.le_refl _) (Nat.le_refl _) ?_
  refine c_X8_isSet (x := ((s : Nat) : Int)) (j := j + 0) hnw hE hV hv.1 ?_
  replace hv := hv.2
  refine sw_if_eq (tgt := 12) (dX8_coset.at 3 rfl) (by decide) (bz_rng _) (fun q => ?_) (fun q => ?_)
  · replace hv := hv.1 (bz_0 q)
    refine sw_bipush (dX8_coset.at 6 rfl) (by decide) ?_
    exact sw_iret (dX8_coset.at 7 rfl) rfl (Nat.le_refl _) (Nat.le_refl _) hv
  · replace hv := hv.2 (bz_n0 q)
    refine sw_iload_n (dX8_coset.at 4 rfl) rfl rfl ?_
    refine sw_if_ge (tgt := 15) (dX8_coset.at 5 rfl) (by decide) (nrng hv.1) (fun q => ?_) (fun q => ?_)
    · replace hv := hv.2.1 q
      refine sw_iconst (dX8_coset.at 8 rfl) ?_
      refine sw_istore_n (lo' := [some (vr (0)), some (vi (((s : Nat) : Int))), some (vi (((i : Nat) : Int))), some (vi (0)), none]) (dX8_coset.at 9 rfl) rfl (by decide) rfl ?_
      refine sw_iconst (dX8_coset.at 10 rfl) ?_
      refine sw_istore (lo' := [some (vr (0)), some (vi (((s : Nat) : Int))), some (vi (((i : Nat) : Int))), some (vi (0)), some (vi (0))]) (dX8_coset.at 11 rfl) (by decide) rfl ?_
      exact hv
    · replace hv := hv.2.2 q
      refine sw_bipush (dX8_coset.at 6 rfl) (by decide) ?_
      exact sw_iret (dX8_coset.at 7 rfl) rfl (Nat.le_refl _) (Nat.le_refl _) hv

set_option maxHeartbeats 2000000 in
set_option maxRecDepth 20000 in
theorem g_X8_coset_0 {G : GG} {j nw nx gn : Nat} {g : Nat → Sh} {c : Nat → Nat → Int} {post : Option AV → AM → Prop} {s : Int} {i : Int} {P : GD} (hnw : nw = 21 ∨ nw = 35) (hE : EL c nw P) (hV : GV P)  (hv : (-2147483648 ≤ s ∧ s < 2147483648) ∧ ((((decide (0 < gN P ∧ 0 ≤ s ∧ s < ((2 ^ gR P : Nat) : Int))) = false) → post (some (vi ((-2)))) (S nw nx g, 78 + gn, c)) ∧ (((decide (0 < gN P ∧ 0 ≤ s ∧ s < ((2 ^ gR P : Nat) : Int))) = true) → (-2147483648 ≤ i ∧ i < 2147483648) ∧ (((0 ≤ i) → SW G (j + 1) mX8_coset 20 [some (vr (0)), some (vi (s)), some (vi (i)), some (vi (0)), some (vi (0))] [] (S nw nx g, 78 + gn, c) B0 post) ∧ ((¬ (0 ≤ i)) → post (some (vi ((-2)))) (S nw nx g, 78 + gn, c)))))) :
    SW G (j + 1) mX8_coset 0 [some (vr (0)), some (vi (s)), some (vi (i)), none, none] [] (S nw nx g, 78 + gn, c) B0 post := by
  refine sw_aload_n (dX8_coset.at 0 rfl) rfl rfl ?_
  refine sw_iload_n (dX8_coset.at 1 rfl) rfl rfl ?_
  refine sw_callV (B' := B0) (As := [vi (s)]) (mc := 0) (ms := 0) (dX8_coset.at 2 rfl) lk_X8_258 (S_lt 0 (by decide)) (S_0 nw nx g) rfl rfl (Nat.le_of_ble_eq_true rfl) rfl (Nat.le_refl _) (Nat.le_refl _) ?_
  refine c_X8_isSet (x := s) (j := j + 0) hnw hE hV hv.1 ?_
  replace hv := hv.2
  refine sw_if_eq (tgt := 12) (dX8_coset.at 3 rfl) (by decide) (bz_rng _) (fun q => ?_) (fun q => ?_)
  · replace hv := hv.1 (bz_0 q)
    refine sw_bipush (dX8_coset.at 6 rfl) (by decide) ?_
    exact sw_iret (dX8_coset.at 7 rfl) rfl (Nat.le_refl _) (Nat.le_refl _) hv
  · replace hv := hv.2 (bz_n0 q)
    refine sw_iload_n (dX8_coset.at 4 rfl) rfl rfl ?_
    refine sw_if_ge (tgt := 15) (dX8_coset.at 5 rfl) (by decide) hv.1 (fun q => ?_) (fun q => ?_)
    · replace hv := hv.2.1 q
      refine sw_iconst (dX8_coset.at 8 rfl) ?_
      refine sw_istore_n (lo' := [some (vr (0)), some (vi (s)), some (vi (i)), some (vi (0)), none]) (dX8_coset.at 9 rfl) rfl (by decide) rfl ?_
      refine sw_iconst (dX8_coset.at 10 rfl) ?_
      refine sw_istore (lo' := [some (vr (0)), some (vi (s)), some (vi (i)), some (vi (0)), some (vi (0))]) (dX8_coset.at 11 rfl) (by decide) rfl ?_
      exact hv
    · replace hv := hv.2.2 q
      refine sw_bipush (dX8_coset.at 6 rfl) (by decide) ?_
      exact sw_iret (dX8_coset.at 7 rfl) rfl (Nat.le_refl _) (Nat.le_refl _) hv

set_option maxHeartbeats 4000000 in
theorem c_X8_coset {G : GG} {j nw nx gn : Nat} {g : Nat → Sh} {c : Nat → Nat → Int} {post : Option AV → AM → Prop} {P : GD} {s i : Int} (hnw : nw = 21 ∨ nw = 35) (hE : EL c nw P) (hV : GV P) (p1 : -2147483648 ≤ s ∧ s < 2147483648) (p2 : -2147483648 ≤ i ∧ i < 2147483648) (K : post (some (vi (q_coset P s i))) (S nw nx g, 78 + gn, c)) : SM G (j + 2) mX8_coset [vr (0), vi (s), vi (i)] (S nw nx g, 78 + gn, c) 0 0 post := by
  refine sm_of wX8_coset rfl (Nat.le_of_ble_eq_true rfl) ?_
  have hN60 := GV_N hV
  have hR5 := GV_R hV
  by_cases hv : (0 < gN P ∧ 0 ≤ s ∧ s < ((2 ^ gR P : Nat) : Int)) ∧ 0 ≤ i
  · obtain ⟨s, rfl⟩ : ∃ n : Nat, s = (n : Int) := ⟨s.toNat, by omega⟩
    obtain ⟨i, rfl⟩ : ∃ n : Nat, i = (n : Int) := ⟨i.toNat, by omega⟩
    have e : q_coset P ((s : Nat) : Int) ((i : Nat) : Int) = kthF (pCos P s) i (gN P) 0 0 := by
      rw [q_coset, if_pos hv]
      simp only [Int.toNat_natCast]
    rw [e] at K
    have K1 : ∀ z : Int, z = (kthF (pCos P s) i (gN P) 0 0) → post (some (vi z)) (S nw nx g, 78 + gn, c) := fun z h => h ▸ K
    refine g_X8_coset_0n hnw hE hV ?_
    refine ⟨?_, ⟨fun q => ?_, fun q => ⟨?_, ⟨fun q => ?_, fun q => ?_⟩⟩⟩⟩
    all_goals first | exact lp_X8_coset_20 hnw hE hV (by omega) (gN P) 0 0 (by omega) (by omega) K | omega | assumption | (exfalso; simp only [decide_eq_true_eq, decide_eq_false_iff_not] at *; omega)
  · have e : q_coset P s i = (-2) := by rw [q_coset, if_neg hv]
    rw [e] at K
    refine g_X8_coset_0 hnw hE hV ?_
    refine ⟨?_, ⟨fun q => ?_, fun q => ⟨?_, ⟨fun q => ?_, fun q => ?_⟩⟩⟩⟩
    all_goals first | exact K | omega | assumption | (exfalso; simp only [decide_eq_true_eq, decide_eq_false_iff_not] at *; omega)

