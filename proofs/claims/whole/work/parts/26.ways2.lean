def inF (P : GD) (s : Nat) : (Nat → Int) → Nat → Nat → Int
  | f, 0 => f
  | f, k + 1 => inF P s (if (gE P k).testBit s then f else fun i => if i = gS P k s then f i + f k else f i) k
def inM (P : GD) (s : Nat) : (Nat → Nat → Int) → Nat → Nat → Nat → Int
  | c, 0 => c
  | c, k + 1 => inM P s (if (gE P k).testBit s then c else up2 c 20 (gS P k s) (c 20 (gS P k s) + c 20 k)) k
theorem inM_off (P : GD) (s : Nat) : ∀ k c a, a ≠ 20 → inM P s c k a = c a := by
  intro k
  induction k with
  | zero => intro c a _; rfl
  | succ k ih =>
    intro c a h
    rw [inM, ih _ a h]
    split
    · rfl
    · exact up2_off h
theorem inF_cong {P : GD} (hV : GV P) {s : Nat} (hs : s < gR P) : ∀ k, k ≤ gN P → ∀ (c : Nat → Nat → Int) (f : Nat → Int), (∀ i, i < 60 → c 20 i = f i) → ∀ i, i < 60 → inM P s c k 20 i = inF P s f k i := by
  have h60 := GV_N hV
  intro k
  induction k with
  | zero => intro _ c f h i hi; exact h i hi
  | succ k ih =>
    intro hk c f h i hi
    have hb := hV.2.2.2.1 k s (by omega) hs
    rw [inM, inF]
    refine ih (by omega) _ _ ?_ i hi
    intro i hi
    split
    · exact h i hi
    · show _ = (if _ then _ else _)
      by_cases e : i = gS P k s
      · rw [e, up2_eq, if_pos rfl, h _ (by omega), h k (by omega)]
      · rw [up2_ne (Or.inr e), if_neg e, h i hi]
def oF (P : GD) (x : Nat) : Nat → Nat → Int
  | 0 => fun i => if i = 0 then 1 else 0
  | i + 1 => inF P (gLet P x i) (oF P x i) (gN P)
def oM (P : GD) (c : Nat → Nat → Int) (x : Nat) : Nat → Nat → Nat → Int
  | 0 => up2 (clW c 60) 20 0 1
  | i + 1 => inM P (gLet P x i) (oM P c x i) (gN P)
theorem oM_off (P : GD) (c : Nat → Nat → Int) (x : Nat) : ∀ d a, a ≠ 20 → oM P c x d a = c a := by
  intro d
  induction d with
  | zero => intro a h; rw [oM, up2_off h]; exact clW_off c 60 a h
  | succ d ih => intro a h; rw [oM, inM_off _ _ _ _ a h]; exact ih a h
theorem gLet_lt {P : GD} (hV : GV P) {x i : Nat} (hx : x < gN P) : gLet P x i < gR P := (hV.2.2.1 _ (gUp_lt hV hx _)).2.2.1
theorem oM_in {P : GD} (hV : GV P) (c : Nat → Nat → Int) {x : Nat} (hx : x < gN P) : ∀ d i, i < 60 → oM P c x d 20 i = oF P x d i := by
  intro d
  induction d with
  | zero =>
    intro i hi
    rw [oM, oF]
    show _ = (if _ then _ else _)
    by_cases e : i = 0
    · rw [e, up2_eq, if_pos rfl]
    · rw [up2_ne (Or.inr e), if_neg e]; exact clW_in c 60 i hi
  | succ d ih =>
    intro i hi
    rw [oM, oF]
    exact inF_cong hV (gLet_lt hV hx) (gN P) (Nat.le_refl _) _ _ ih i hi
set_option maxHeartbeats 2000000 in
set_option maxRecDepth 20000 in
theorem g_X8_inside_61 {G : GG} {j nw nx gn : Nat} {g : Nat → Sh} {c : Nat → Nat → Int} {post : Option AV → AM → Prop} {x : Nat} {y : Nat} {P : GD} {i : Nat} {s : Nat} {z : Nat} (hnw : nw = 21 ∨ nw = 35) (hE : EL c nw P) (hV : GV P)  (hv : (z < 2147483648) ∧ (((((z : Nat) : Int) < 0) → SW G (j + 3) mX8_inside 26 [some (vr (0)), some (vi (((x : Nat) : Int))), some (vi (((y : Nat) : Int))), some (vi (((i + 1 : Nat) : Int))), none, none] [] (S nw nx g, 78 + gn, c) B0 post) ∧ ((¬ (((z : Nat) : Int) < 0)) → (z < gN P) ∧ ((gE P z < 2147483648) ∧ (((gE P z) < 9223372036854775808) ∧ (s < 64) ∧ (((((gE P z).testBit s) = true) → SW G (j + 3) mX8_inside 61 [some (vr (0)), some (vi (((x : Nat) : Int))), some (vi (((y : Nat) : Int))), some (vi (((i : Nat) : Int))), some (vi (((s : Nat) : Int))), some (vi (((z : Nat) : Int) + (-1)))] [] (S nw nx g, 78 + gn, c) B0 post) ∧ ((((gE P z).testBit s) = false) → (z < gN P) ∧ (s < gR P) ∧ ((gS P z s < 60) ∧ ((z < 60) ∧ ((gS P z s < 60) ∧ (SW G (j + 3) mX8_inside 61 [some (vr (0)), some (vi (((x : Nat) : Int))), some (vi (((y : Nat) : Int))), some (vi (((i : Nat) : Int))), some (vi (((s : Nat) : Int))), some (vi (((z : Nat) : Int) + (-1)))] [] (S nw nx g, 78 + gn, (up2 c 20 (gS P z s) ((c 20 (gS P z s)) + (c 20 z)))) B0 post))))))))))) :
    SW G (j + 3) mX8_inside 61 [some (vr (0)), some (vi (((x : Nat) : Int))), some (vi (((y : Nat) : Int))), some (vi (((i : Nat) : Int))), some (vi (((s : Nat) : Int))), some (vi (((z : Nat) : Int)))] [] (S nw nx g, 78 + gn, c) B0 post := by
  refine sw_iload (dX8_inside_0.at 35 rfl) rfl ?_
  refine sw_if_lt (tgt := 117) (dX8_inside_0.at 36 rfl) (by decide) (nrng hv.1) (fun q => ?_) (fun q => ?_)
  · replace hv := hv.2.1 q
    refine sw_iinc (lo' := [some (vr (0)), some (vi (((x : Nat) : Int))), some (vi (((y : Nat) : Int))), some (vi (((i + 1 : Nat) : Int))), some (vi (((s : Nat) : Int))), some (vi (((z : Nat) : Int)))]) (dX8_inside_1.at 13 rfl) rfl (by decide) rfl ?_
    refine sw_goto (tgt := 26) (dX8_inside_1.at 14 rfl) (by decide) ?_
    exact sw_mask (bs := [true, true, true, true, false, false]) hv
  · replace hv := hv.2.2 q
    refine sw_aload_n (dX8_inside_0.at 37 rfl) rfl rfl ?_
    refine sw_getR (dX8_inside_0.at 38 rfl) fp_X8_65 (S_lt 0 (by decide)) (S_0 nw nx g) rfl rfl ?_
    refine sw_getR (dX8_inside_0.at 39 rfl) fp_X8_261 (S_e_lt hnw) (S_e hnw) rfl rfl ?_
    refine sw_iload (dX8_inside_0.at 40 rfl) rfl ?_
    refine sw_ialdN z (w := ((gE P z : Nat) : Int)) (dX8_inside_0.at 41 rfl) (S_ek_lt hnw (by decide)) (S_e_9 hnw) (by decide) (GV_lt hV hv.1) (EL_E hE hv.1) ?_
    replace hv := hv.2
    refine sw_i2l (dX8_inside_0.at 42 rfl) (nrng hv.1) ?_
    replace hv := hv.2
    refine sw_iload (dX8_inside_0.at 43 rfl) rfl ?_
    refine sw_callS (post' := post) (B' := B0) (As := [vl (((gE P z : Nat) : Int)), vi (((s : Nat) : Int))]) (mc := 0) (ms := 0) (dX8_inside_0.at 44 rfl) lk_X8_185 rfl rfl (Nat.le_of_ble_eq_true rfl) rfl (Nat.le_refl _) (Nat.le_refl _) ?_
    refine c_X8_hasBit (s := (gE P z)) (i := s) (j := j + 2) hv.1 hv.2.1 ?_
    replace hv := hv.2.2
    refine sw_if_ne (tgt := 111) (dX8_inside_0.at 45 rfl) (by decide) (bz_rng _) (fun q => ?_) (fun q => ?_)
    · replace hv := hv.1 (bz_1 q)
      refine sw_iinc (lo' := [some (vr (0)), some (vi (((x : Nat) : Int))), some (vi (((y : Nat) : Int))), some (vi (((i : Nat) : Int))), some (vi (((s : Nat) : Int))), some (vi (((z : Nat) : Int) + (-1)))]) (dX8_inside_1.at 11 rfl) rfl (by decide) rfl ?_
      refine sw_goto (tgt := 61) (dX8_inside_1.at 12 rfl) (by decide) ?_
      exact hv
    · replace hv := hv.2 (bz_n1 q)
      refine sw_aload_n (dX8_inside_0.at 46 rfl) rfl rfl ?_
      refine sw_getR (dX8_inside_0.at 47 rfl) fp_X8_58 (S_lt 0 (by decide)) (S_0 nw nx g) rfl rfl ?_
      refine sw_aload_n (dX8_inside_0.at 48 rfl) rfl rfl ?_
      refine sw_getR (dX8_inside_0.at 49 rfl) fp_X8_65 (S_lt 0 (by decide)) (S_0 nw nx g) rfl rfl ?_
      refine sw_iload (dX8_inside_1.at 0 rfl) rfl ?_
      refine sw_iload (dX8_inside_1.at 1 rfl) rfl ?_
      refine sw_callV (B' := B0) (As := [vi (((z : Nat) : Int)), vi (((s : Nat) : Int))]) (mc := 0) (ms := 0) (dX8_inside_1.at 2 rfl) lk_X8_268 (S_e_lt hnw) (S_e hnw) rfl rfl (Nat.le_of_ble_eq_true rfl) rfl (Nat.le_refl _) (Nat.le_refl _) ?_
      refine c_X1_byP (e := nw) (x := z) (s := s) (j := j + 2) hnw hE hV hv.1 hv.2.1 ?_
      replace hv := hv.2.2
      refine sw_dup2 (dX8_inside_1.at 3 rfl) (fun _ h => by cases h) (fun _ h => by cases h) ?_
      refine sw_laldN (gS P z s) (dX8_inside_1.at 4 rfl) (S_lt 20 (by decide)) (S_20 nw nx g) (by decide) hv.1 rfl ?_
      replace hv := hv.2
      refine sw_aload_n (dX8_inside_1.at 5 rfl) rfl rfl ?_
      refine sw_getR (dX8_inside_1.at 6 rfl) fp_X8_58 (S_lt 0 (by decide)) (S_0 nw nx g) rfl rfl ?_
      refine sw_iload (dX8_inside_1.at 7 rfl) rfl ?_
      refine sw_laldN z (dX8_inside_1.at 8 rfl) (S_lt 20 (by decide)) (S_20 nw nx g) (by decide) hv.1 rfl ?_
      replace hv := hv.2
      refine sw_ladd (dX8_inside_1.at 9 rfl) ?_
      refine sw_lastN (gS P z s) (dX8_inside_1.at 10 rfl) (S_lt 20 (by decide)) (S_20 nw nx g) (by decide) hv.1 ?_
      replace hv := hv.2
      refine sw_iinc (lo' := [some (vr (0)), some (vi (((x : Nat) : Int))), some (vi (((y : Nat) : Int))), some (vi (((i : Nat) : Int))), some (vi (((s : Nat) : Int))), some (vi (((z : Nat) : Int) + (-1)))]) (dX8_inside_1.at 11 rfl) rfl (by decide) rfl ?_
      refine sw_goto (tgt := 61) (dX8_inside_1.at 12 rfl) (by decide) ?_
      exact hv

set_option maxHeartbeats 2000000 in
set_option maxRecDepth 20000 in
theorem g_X8_inside_61e {G : GG} {j nw nx gn : Nat} {g : Nat → Sh} {c : Nat → Nat → Int} {post : Option AV → AM → Prop} {x : Nat} {y : Nat} {P : GD} {i : Nat} {s : Nat} (hnw : nw = 21 ∨ nw = 35) (hE : EL c nw P) (hV : GV P)  (hv : SW G (j + 3) mX8_inside 26 [some (vr (0)), some (vi (((x : Nat) : Int))), some (vi (((y : Nat) : Int))), some (vi (((i + 1 : Nat) : Int))), none, none] [] (S nw nx g, 78 + gn, c) B0 post) :
    SW G (j + 3) mX8_inside 61 [some (vr (0)), some (vi (((x : Nat) : Int))), some (vi (((y : Nat) : Int))), some (vi (((i : Nat) : Int))), some (vi (((s : Nat) : Int))), some (vi ((-1)))] [] (S nw nx g, 78 + gn, c) B0 post := by
  refine sw_iload (dX8_inside_0.at 35 rfl) rfl ?_
  refine sw_if_lt (tgt := 117) (dX8_inside_0.at 36 rfl) (by decide) (by decide) (fun q => ?_) (fun q => ?_)
  · clear q
    refine sw_iinc (lo' := [some (vr (0)), some (vi (((x : Nat) : Int))), some (vi (((y : Nat) : Int))), some (vi (((i + 1 : Nat) : Int))), some (vi (((s : Nat) : Int))), some (vi ((-1)))]) (dX8_inside_1.at 13 rfl) rfl (by decide) rfl ?_
    refine sw_goto (tgt := 26) (dX8_inside_1.at 14 rfl) (by decide) ?_
    exact sw_mask (bs := [true, true, true, true, false, false]) hv
  · exact absurd q (by decide)

set_option maxHeartbeats 2000000 in
set_option maxRecDepth 20000 in
theorem g_X8_inside_26 {G : GG} {j nw nx gn : Nat} {g : Nat → Sh} {c : Nat → Nat → Int} {post : Option AV → AM → Prop} {x : Nat} {y : Nat} {P : GD} {i : Nat} (hnw : nw = 21 ∨ nw = 35) (hE : EL c nw P) (hV : GV P)  (hv : (x < gN P) ∧ ((i < 2147483648) ∧ (gL P x < 2147483648) ∧ (((gL P x ≤ i) → (y < 60) ∧ (post (some (vl (c 20 y))) (S nw nx g, 78 + gn, c))) ∧ ((¬ (gL P x ≤ i)) → (x < gN P) ∧ (i < gL P x) ∧ (SW G (j + 3) mX8_inside 61 [some (vr (0)), some (vi (((x : Nat) : Int))), some (vi (((y : Nat) : Int))), some (vi (((i : Nat) : Int))), some (vi (((gLet P x i : Nat) : Int))), some (vi (((gN P : Nat) : Int) - 1))] [] (S nw nx g, 78 + gn, c) B0 post))))) :
    SW G (j + 3) mX8_inside 26 [some (vr (0)), some (vi (((x : Nat) : Int))), some (vi (((y : Nat) : Int))), some (vi (((i : Nat) : Int))), none, none] [] (S nw nx g, 78 + gn, c) B0 post := by
  refine sw_iload_n (dX8_inside_0.at 16 rfl) rfl rfl ?_
  refine sw_aload_n (dX8_inside_0.at 17 rfl) rfl rfl ?_
  refine sw_getR (dX8_inside_0.at 18 rfl) fp_X8_65 (S_lt 0 (by decide)) (S_0 nw nx g) rfl rfl ?_
  refine sw_getR (dX8_inside_0.at 19 rfl) fp_X8_133 (S_e_lt hnw) (S_e hnw) rfl rfl ?_
  refine sw_iload_n (dX8_inside_0.at 20 rfl) rfl rfl ?_
  refine sw_ialdN x (w := ((gL P x : Nat) : Int)) (dX8_inside_0.at 21 rfl) (S_ek_lt hnw (by decide)) (S_e_2 hnw) (by decide) (GV_lt hV hv.1) (EL_L hE hv.1) ?_
  replace hv := hv.2
  refine sw_icmpN_ge i (gL P x) (tgt := 123) (dX8_inside_0.at 22 rfl) (by decide) hv.1 hv.2.1 (fun q => ?_) (fun q => ?_)
  · replace hv := hv.2.2.1 q
    refine sw_aload_n (dX8_inside_1.at 15 rfl) rfl rfl ?_
    refine sw_getR (dX8_inside_1.at 16 rfl) fp_X8_58 (S_lt 0 (by decide)) (S_0 nw nx g) rfl rfl ?_
    refine sw_iload_n (dX8_inside_1.at 17 rfl) rfl rfl ?_
    refine sw_laldN y (dX8_inside_1.at 18 rfl) (S_lt 20 (by decide)) (S_20 nw nx g) (by decide) hv.1 rfl ?_
    replace hv := hv.2
    exact sw_lret (dX8_inside_1.at 19 rfl) rfl (Nat.le_refl _) (Nat.le_refl _) hv
  · replace hv := hv.2.2.2 q
    refine sw_aload_n (dX8_inside_0.at 23 rfl) rfl rfl ?_
    refine sw_getR (dX8_inside_0.at 24 rfl) fp_X8_65 (S_lt 0 (by decide)) (S_0 nw nx g) rfl rfl ?_
    refine sw_iload_n (dX8_inside_0.at 25 rfl) rfl rfl ?_
    refine sw_iload_n (dX8_inside_0.at 26 rfl) rfl rfl ?_
    refine sw_callV (B' := B0) (As := [vi (((x : Nat) : Int)), vi (((i : Nat) : Int))]) (mc := 0) (ms := 0) (dX8_inside_0.at 27 rfl) lk_X8_137 (S_e_lt hnw) (S_e hnw) rfl rfl (Nat.le_of_ble_eq_true rfl) rfl (Nat.le_refl _) (Nat.le_refl _) ?_
    refine c_X1_letterOf (e := nw) (x := x) (i := i) (j := j + 2) hnw hE hV hv.1 hv.2.1 ?_
    replace hv := hv.2.2
    refine sw_istore (lo' := [some (vr (0)), some (vi (((x : Nat) : Int))), some (vi (((y : Nat) : Int))), some (vi (((i : Nat) : Int))), some (vi (((gLet P x i : Nat) : Int))), none]) (dX8_inside_0.at 28 rfl) (by decide) rfl ?_
    refine sw_aload_n (dX8_inside_0.at 29 rfl) rfl rfl ?_
    refine sw_getR (dX8_inside_0.at 30 rfl) fp_X8_65 (S_lt 0 (by decide)) (S_0 nw nx g) rfl rfl ?_
    refine sw_getIE (w := ((gN P : Nat) : Int)) (dX8_inside_0.at 31 rfl) fp_X8_103 (S_e_lt hnw) (S_e hnw) rfl (EL_N hE) ?_
    refine sw_iconst (dX8_inside_0.at 32 rfl) ?_
    refine sw_isub (dX8_inside_0.at 33 rfl) ?_
    refine sw_istore (lo' := [some (vr (0)), some (vi (((x : Nat) : Int))), some (vi (((y : Nat) : Int))), some (vi (((i : Nat) : Int))), some (vi (((gLet P x i : Nat) : Int))), some (vi (((gN P : Nat) : Int) - 1))]) (dX8_inside_0.at 34 rfl) (by decide) rfl ?_
    exact hv

set_option maxHeartbeats 2000000 in
set_option maxRecDepth 20000 in
theorem g_X8_inside_0n {G : GG} {j nw nx gn : Nat} {g : Nat → Sh} {c : Nat → Nat → Int} {post : Option AV → AM → Prop} {x : Nat} {y : Nat} {P : GD} (hnw : nw = 21 ∨ nw = 35) (hE : EL c nw P) (hV : GV P)  (hv : (-2147483648 ≤ ((x : Nat) : Int) ∧ ((x : Nat) : Int) < 2147483648) ∧ (-2147483648 ≤ ((y : Nat) : Int) ∧ ((y : Nat) : Int) < 2147483648) ∧ ((((decide ((0 ≤ ((x : Nat) : Int) ∧ ((x : Nat) : Int) < (gN P : Int)) ∧ 0 ≤ ((y : Nat) : Int) ∧ ((y : Nat) : Int) < (gN P : Int))) = true) → SW G (j + 3) mX8_inside 26 [some (vr (0)), some (vi (((x : Nat) : Int))), some (vi (((y : Nat) : Int))), some (vi (0)), none, none] [] (S nw nx g, 78 + gn, (up2 (clW c 60) 20 0 1)) B0 post) ∧ (((decide ((0 ≤ ((x : Nat) : Int) ∧ ((x : Nat) : Int) < (gN P : Int)) ∧ 0 ≤ ((y : Nat) : Int) ∧ ((y : Nat) : Int) < (gN P : Int))) = false) → post (some (vl ((-2)))) (S nw nx g, 78 + gn, c)))) :
    SW G (j + 3) mX8_inside 0 [some (vr (0)), some (vi (((x : Nat) : Int))), some (vi (((y : Nat) : Int))), none, none, none] [] (S nw nx g, 78 + gn, c) B0 post := by
  refine sw_aload_n (dX8_inside_0.at 0 rfl) rfl rfl ?_
  refine sw_iload_n (dX8_inside_0.at 1 rfl) rfl rfl ?_
  refine sw_iload_n (dX8_inside_0.at 2 rfl) rfl rfl ?_
  refine sw_callV (B' := B0) (As := [vi (((x : Nat) : Int)), vi (((y : Nat) : Int))]) (mc := 0) (ms := 0) (dX8_inside_0.at 3 rfl) lk_X8_157 (S_lt 0 (by decide)) (S_0 nw nx g) rfl rfl (Nat.le_of_ble_eq_true rfl) rfl (Nat.le_refl _) (Nat.le_refl _) ?_
  refine c_X8_arePair (x := ((x : Nat) : Int)) (y := ((y : Nat) : Int)) (j := j + 1) hnw hE hV hv.1 hv.2.1 ?_
  replace hv := hv.2.2
  refine sw_if_ne (tgt := 13) (dX8_inside_0.at 4 rfl) (by decide) (bz_rng _) (fun q => ?_) (fun q => ?_)
  · replace hv := hv.1 (bz_1 q)
    refine sw_aload_n (dX8_inside_0.at 7 rfl) rfl rfl ?_
    refine sw_callV (B' := B0) (As := []) (mc := 0) (ms := 0) (dX8_inside_0.at 8 rfl) lk_X8_189 (S_lt 0 (by decide)) (S_0 nw nx g) rfl rfl (Nat.le_of_ble_eq_true rfl) rfl (Nat.le_refl _) (Nat.le_refl _) ?_
    refine c_X8_clearWays  (j := j + 2)  ?_
    refine sw_aload_n (dX8_inside_0.at 9 rfl) rfl rfl ?_
    refine sw_getR (dX8_inside_0.at 10 rfl) fp_X8_58 (S_lt 0 (by decide)) (S_0 nw nx g) rfl rfl ?_
    refine sw_iconst (dX8_inside_0.at 11 rfl) ?_
    refine sw_lconst (z := 1) (dX8_inside_0.at 12 rfl) (by decide) ?_
    refine sw_lastN 0 (dX8_inside_0.at 13 rfl) (S_lt 20 (by decide)) (S_20 nw nx g) (by decide) (by decide) ?_
    refine sw_iconst (dX8_inside_0.at 14 rfl) ?_
    refine sw_istore_n (lo' := [some (vr (0)), some (vi (((x : Nat) : Int))), some (vi (((y : Nat) : Int))), some (vi (0)), none, none]) (dX8_inside_0.at 15 rfl) rfl (by decide) rfl ?_
    exact hv
  · replace hv := hv.2 (bz_n1 q)
    refine sw_ldc2 (z := (-2)) (dX8_inside_0.at 5 rfl) kc_X8_147 (by decide) ?_
    exact sw_lret (dX8_inside_0.at 6 rfl) rfl (Nat.le_refl _) (Nat.le_refl _) hv

set_option maxHeartbeats 2000000 in
set_option maxRecDepth 20000 in
theorem g_X8_inside_0 {G : GG} {j nw nx gn : Nat} {g : Nat → Sh} {c : Nat → Nat → Int} {post : Option AV → AM → Prop} {x : Int} {y : Int} {P : GD} (hnw : nw = 21 ∨ nw = 35) (hE : EL c nw P) (hV : GV P)  (hv : (-2147483648 ≤ x ∧ x < 2147483648) ∧ (-2147483648 ≤ y ∧ y < 2147483648) ∧ ((((decide ((0 ≤ x ∧ x < (gN P : Int)) ∧ 0 ≤ y ∧ y < (gN P : Int))) = true) → SW G (j + 3) mX8_inside 26 [some (vr (0)), some (vi (x)), some (vi (y)), some (vi (0)), none, none] [] (S nw nx g, 78 + gn, (up2 (clW c 60) 20 0 1)) B0 post) ∧ (((decide ((0 ≤ x ∧ x < (gN P : Int)) ∧ 0 ≤ y ∧ y < (gN P : Int))) = false) → post (some (vl ((-2)))) (S nw nx g, 78 + gn, c)))) :
    SW G (j + 3) mX8_inside 0 [some (vr (0)), some (vi (x)), some (vi (y)), none, none, none] [] (S nw nx g, 78 + gn, c) B0 post := by
  refine sw_aload_n (dX8_inside_0.at 0 rfl) rfl rfl ?_
  refine sw_iload_n (dX8_inside_0.at 1 rfl) rfl rfl ?_
  refine sw_iload_n (dX8_inside_0.at 2 rfl) rfl rfl ?_
  refine sw_callV (B' := B0) (As := [vi (x), vi (y)]) (mc := 0) (ms := 0) (dX8_inside_0.at 3 rfl) lk_X8_157 (S_lt 0 (by decide)) (S_0 nw nx g) rfl rfl (Nat.le_of_ble_eq_true rfl) rfl (Nat.le_refl _) (Nat.le_refl _) ?_
  refine c_X8_arePair (x := x) (y := y) (j := j + 1) hnw hE hV hv.1 hv.2.1 ?_
  replace hv := hv.2.2
  refine sw_if_ne (tgt := 13) (dX8_inside_0.at 4 rfl) (by decide) (bz_rng _) (fun q => ?_) (fun q => ?_)
  · replace hv := hv.1 (bz_1 q)
    refine sw_aload_n (dX8_inside_0.at 7 rfl) rfl rfl ?_
    refine sw_callV (B' := B0) (As := []) (mc := 0) (ms := 0) (dX8_inside_0.at 8 rfl) lk_X8_189 (S_lt 0 (by decide)) (S_0 nw nx g) rfl rfl (Nat.le_of_ble_eq_true rfl) rfl (Nat.le_refl _) (Nat.le_refl _) ?_
    refine c_X8_clearWays  (j := j + 2)  ?_
    refine sw_aload_n (dX8_inside_0.at 9 rfl) rfl rfl ?_
    refine sw_getR (dX8_inside_0.at 10 rfl) fp_X8_58 (S_lt 0 (by decide)) (S_0 nw nx g) rfl rfl ?_
    refine sw_iconst (dX8_inside_0.at 11 rfl) ?_
    refine sw_lconst (z := 1) (dX8_inside_0.at 12 rfl) (by decide) ?_
    refine sw_lastN 0 (dX8_inside_0.at 13 rfl) (S_lt 20 (by decide)) (S_20 nw nx g) (by decide) (by decide) ?_
    refine sw_iconst (dX8_inside_0.at 14 rfl) ?_
    refine sw_istore_n (lo' := [some (vr (0)), some (vi (x)), some (vi (y)), some (vi (0)), none, none]) (dX8_inside_0.at 15 rfl) rfl (by decide) rfl ?_
    exact hv
  · replace hv := hv.2 (bz_n1 q)
    refine sw_ldc2 (z := (-2)) (dX8_inside_0.at 5 rfl) kc_X8_147 (by decide) ?_
    exact sw_lret (dX8_inside_0.at 6 rfl) rfl (Nat.le_refl _) (Nat.le_refl _) hv

def q_inside (P : GD) (x y : Int) : Int := if (0 ≤ x ∧ x < (gN P : Int)) ∧ 0 ≤ y ∧ y < (gN P : Int) then oF P x.toNat (gL P x.toNat) y.toNat else -2
set_option maxHeartbeats 2000000 in
theorem lp_X8_inside_61 {G : GG} {j nw nx gn : Nat} {g : Nat → Sh} {c : Nat → Nat → Int} {post : Option AV → AM → Prop} {P : GD} {x y i s : Nat} (hnw : nw = 21 ∨ nw = 35) (hV : GV P) (hs : s < gR P) : ∀ k : Nat, k ≤ gN P → ∀ c : Nat → Nat → Int, EL c nw P →
    SW G (j + 3) mX8_inside 26 [some (vr (0)), some (vi (((x : Nat) : Int))), some (vi (((y : Nat) : Int))), some (vi (((i + 1 : Nat) : Int))), none, none] [] (S nw nx g, 78 + gn, inM P s c k) B0 post →
    SW G (j + 3) mX8_inside 61 [some (vr (0)), some (vi (((x : Nat) : Int))), some (vi (((y : Nat) : Int))), some (vi (((i : Nat) : Int))), some (vi (((s : Nat) : Int))), some (vi ((k : Int) - 1))] [] (S nw nx g, 78 + gn, c) B0 post := by
  have h60 := GV_N hV
  have h5 := GV_R hV
  intro k
  induction k with
  | zero =>
    intro _ c hE K
    have e : (((0 : Nat) : Int) - 1) = (-1) := by omega
    rw [e]
    refine g_X8_inside_61e hnw hE hV ?_
    exact K
  | succ k ih =>
    intro hk c hE K
    have e : (((k + 1 : Nat) : Int) - 1) = ((k : Nat) : Int) := by omega
    have e2 : ((k : Nat) : Int) + (-1) = (k : Int) - 1 := by omega
    have fE := (hV.2.2.1 k (by omega)).2.2.2.2.2.1
    have fS := hV.2.2.2.1 k s (by omega) hs
    rw [e]
    rw [inM] at K
    refine g_X8_inside_61 hnw hE hV ?_
    rw [e2]
    refine ⟨?_, ⟨fun q => ?_, fun q => ⟨?_, ⟨?_, ⟨?_, ?_, ⟨fun q => ?_, fun q => ⟨?_, ?_, ⟨?_, ⟨?_, ⟨?_, ?_⟩⟩⟩⟩⟩⟩⟩⟩⟩⟩
    all_goals first | omega | assumption | (exfalso; omega) | (rw [if_pos q] at K; exact ih (by omega) _ hE K) | (rw [if_neg (by rw [q]; decide)] at K; exact ih (by omega) _ (EL_up hE hnw (by decide)) K)

set_option maxHeartbeats 2000000 in
theorem lp_X8_inside_26 {G : GG} {j nw nx gn : Nat} {g : Nat → Sh} {c : Nat → Nat → Int} {post : Option AV → AM → Prop} {P : GD} {x y : Nat} (hnw : nw = 21 ∨ nw = 35) (hE : EL c nw P) (hV : GV P) (hx : x < gN P) (hy : y < gN P) (K : ∀ c2 : Nat → Nat → Int, (∀ a, a ≠ 20 → c2 a = c a) → c2 20 y = oF P x (gL P x) y → post (some (vl (c2 20 y))) (S nw nx g, 78 + gn, c2)) :
    ∀ k i : Nat, i + k = gL P x → SW G (j + 3) mX8_inside 26 [some (vr (0)), some (vi (((x : Nat) : Int))), some (vi (((y : Nat) : Int))), some (vi (((i : Nat) : Int))), none, none] [] (S nw nx g, 78 + gn, oM P c x i) B0 post := by
  have h60 := GV_N hV
  have h13 := (hV.2.2.1 x hx).1
  have hEd : ∀ d, EL (oM P c x d) nw P := fun d => EL_same hE (fun q hq => oM_off P c x d (nw + q) (by omega))
  intro k
  induction k with
  | zero =>
    intro i hi
    refine g_X8_inside_26 hnw (hEd i) hV ?_
    have e : i = gL P x := by omega
    have K2 := K (oM P c x i) (fun a ha => oM_off P c x i a ha) (by rw [oM_in hV c hx i y (by omega), e])
    refine ⟨?_, ⟨?_, ?_, ⟨fun q => ⟨?_, ?_⟩, fun q => ⟨?_, ?_, ?_⟩⟩⟩⟩
    all_goals first | exact K2 | omega | (exfalso; omega)
  | succ k ih =>
    intro i hi
    refine g_X8_inside_26 hnw (hEd i) hV ?_
    have h := ih (i + 1) (by omega)
    rw [oM] at h
    have h2 := lp_X8_inside_61 (c := c) (G := G) (j := j) (nx := nx) (gn := gn) (g := g) (post := post) (x := x) (y := y) (i := i) hnw hV (gLet_lt hV hx (i := i)) (gN P) (Nat.le_refl _) _ (hEd i) h
    refine ⟨?_, ⟨?_, ?_, ⟨fun q => ⟨?_, ?_⟩, fun q => ⟨?_, ?_, ?_⟩⟩⟩⟩
    all_goals first | omega | assumption | (exfalso; omega) | exact h2

set_option maxHeartbeats 4000000 in
theorem c_X8_inside {G : GG} {j nw nx gn : Nat} {g : Nat → Sh} {c : Nat → Nat → Int} {post : Option AV → AM → Prop} {P : GD} {x y : Int} (hnw : nw = 21 ∨ nw = 35) (hE : EL c nw P) (hV : GV P) (p1 : -2147483648 ≤ x ∧ x < 2147483648) (p2 : -2147483648 ≤ y ∧ y < 2147483648) (K : ∀ c2 : Nat → Nat → Int, (∀ a, a ≠ 20 → c2 a = c a) → post (some (vl (q_inside P x y))) (S nw nx g, 78 + gn, c2)) : SM G (j + 4) mX8_inside [vr 0, vi x, vi y] (S nw nx g, 78 + gn, c) 0 0 post := by
  refine sm_of wX8_inside rfl (Nat.le_of_ble_eq_true rfl) ?_
  have hN60 := GV_N hV
  by_cases hv : (0 ≤ x ∧ x < (gN P : Int)) ∧ 0 ≤ y ∧ y < (gN P : Int)
  · obtain ⟨x, rfl⟩ : ∃ n : Nat, x = (n : Int) := ⟨x.toNat, by omega⟩
    obtain ⟨y, rfl⟩ : ∃ n : Nat, y = (n : Int) := ⟨y.toNat, by omega⟩
    have hx : x < gN P := by omega
    have hy : y < gN P := by omega
    rw [q_inside, if_pos hv] at K
    simp only [Int.toNat_natCast] at K
    refine g_X8_inside_0n hnw hE hV ?_
    refine ⟨?_, ?_, ⟨fun q => ?_, fun q => ?_⟩⟩
    all_goals first | omega | assumption | (exfalso; simp only [decide_eq_true_eq, decide_eq_false_iff_not] at *; omega) | exact lp_X8_inside_26 hnw hE hV hx hy (fun c2 h1 h2 => by rw [h2]; exact K c2 h1) (gL P x) 0 (by omega)
  · rw [q_inside, if_neg hv] at K
    have K := K c (fun _ _ => rfl)
    refine g_X8_inside_0 hnw hE hV ?_
    refine ⟨?_, ?_, ⟨fun q => ?_, fun q => ?_⟩⟩
    all_goals first | exact K | omega | assumption | (exfalso; simp only [decide_eq_true_eq, decide_eq_false_iff_not] at *; omega)

def paF (P : GD) : (Nat → Int) → Nat → Nat → Int
  | f, 0 => f
  | f, k + 1 => paF P (fun i => if i = k then sMir P f k (gM P) else f i) k
def paM (P : GD) : (Nat → Nat → Int) → Nat → Nat → Nat → Int
  | c, 0 => c
  | c, k + 1 => paM P (up2 c 20 k (sMir P (c 20) k (gM P))) k
theorem sMir_cong {P : GD} (hV : GV P) {x : Nat} (hx : x < gN P) {f f2 : Nat → Int} (h : ∀ i, i < 60 → f i = f2 i) : ∀ n, n ≤ gM P → sMir P f x n = sMir P f2 x n := by
  have h60 := GV_N hV
  intro n
  induction n with
  | zero => intro _; rfl
  | succ n ih =>
    intro hn
    have hb := hV.2.2.2.2.1 x (gT P n) hx (hV.2.2.2.2.2 n (by omega))
    rw [sMir, sMir, ih (by omega), h _ (by omega)]
theorem paM_off (P : GD) : ∀ k c a, a ≠ 20 → paM P c k a = c a := by
  intro k
  induction k with
  | zero => intro c a _; rfl
  | succ k ih => intro c a h; rw [paM, ih _ a h]; exact up2_off h
theorem paF_cong {P : GD} (hV : GV P) : ∀ k, k ≤ gN P → ∀ (c : Nat → Nat → Int) (f : Nat → Int), (∀ i, i < 60 → c 20 i = f i) → ∀ i, i < 60 → paM P c k 20 i = paF P f k i := by
  have h60 := GV_N hV
  intro k
  induction k with
  | zero => intro _ c f h i hi; exact h i hi
  | succ k ih =>
    intro hk c f h i hi
    rw [paM, paF]
    refine ih (by omega) _ _ ?_ i hi
    intro i hi
    show _ = (if _ then _ else _)
    by_cases e : i = k
    · rw [e, up2_eq, if_pos rfl]; exact sMir_cong hV (by omega) h _ (Nat.le_refl _)
    · rw [up2_ne (Or.inr e), if_neg e, h i hi]
def opF (P : GD) (x y : Nat) : Nat → Nat → Int
  | 0 => fun i => if i = x then 1 else 0
  | i + 1 => paF P (opF P x y i) (y + 1)
def opM (P : GD) (c : Nat → Nat → Int) (x y : Nat) : Nat → Nat → Nat → Int
  | 0 => up2 (clW c 60) 20 x 1
  | i + 1 => paM P (opM P c x y i) (y + 1)
theorem opM_off (P : GD) (c : Nat → Nat → Int) (x y : Nat) : ∀ d a, a ≠ 20 → opM P c x y d a = c a := by
  intro d
  induction d with
  | zero => intro a h; rw [opM, up2_off h]; exact clW_off c 60 a h
  | succ d ih => intro a h; rw [opM, paM_off _ _ _ a h]; exact ih a h
theorem opM_in {P : GD} (hV : GV P) (c : Nat → Nat → Int) {x y : Nat} (hy : y < gN P) : ∀ d i, i < 60 → opM P c x y d 20 i = opF P x y d i := by
  intro d
  induction d with
  | zero =>
    intro i hi
    rw [opM, opF]
    show _ = (if _ then _ else _)
    by_cases e : i = x
    · rw [e, up2_eq, if_pos rfl]
    · rw [up2_ne (Or.inr e), if_neg e]; exact clW_in c 60 i hi
  | succ d ih =>
    intro i hi
    rw [opM, opF]
    exact paF_cong hV (y + 1) (by omega) _ _ ih i hi
def q_paths (P : GD) (x y u : Int) : Int := if ((0 ≤ x ∧ x < (gN P : Int)) ∧ 0 ≤ y ∧ y < (gN P : Int)) ∧ 0 ≤ u ∧ u ≤ 30 then opF P x.toNat y.toNat (min u.toNat (gTop P + 1)) y.toNat else -2
set_option maxHeartbeats 2000000 in
set_option maxRecDepth 20000 in
theorem g_X8_paths_58 {G : GG} {j nw nx gn : Nat} {g : Nat → Sh} {c : Nat → Nat → Int} {post : Option AV → AM → Prop} {x : Nat} {y : Nat} {u : Nat} {P : GD} {i : Nat} {z : Nat} (hnw : nw = 21 ∨ nw = 35) (hE : EL c nw P) (hV : GV P)  (hv : (z < 2147483648) ∧ (((((z : Nat) : Int) < 0) → SW G (j + 2) mX8_paths 37 [some (vr (0)), some (vi (((x : Nat) : Int))), some (vi (((y : Nat) : Int))), some (vi (((u : Nat) : Int))), some (vi (((i + 1 : Nat) : Int))), none] [] (S nw nx g, 78 + gn, c) B0 post) ∧ ((¬ (((z : Nat) : Int) < 0)) → (z < gN P) ∧ ((z < 60) ∧ (SW G (j + 2) mX8_paths 58 [some (vr (0)), some (vi (((x : Nat) : Int))), some (vi (((y : Nat) : Int))), some (vi (((u : Nat) : Int))), some (vi (((i : Nat) : Int))), some (vi (((z : Nat) : Int) + (-1)))] [] (S nw nx g, 78 + gn, (up2 c 20 z (sMir P (c 20) z (gM P)))) B0 post))))) :
    SW G (j + 2) mX8_paths 58 [some (vr (0)), some (vi (((x : Nat) : Int))), some (vi (((y : Nat) : Int))), some (vi (((u : Nat) : Int))), some (vi (((i : Nat) : Int))), some (vi (((z : Nat) : Int)))] [] (S nw nx g, 78 + gn, c) B0 post := by
  refine sw_iload (dX8_paths.at 31 rfl) rfl ?_
  refine sw_if_lt (tgt := 82) (dX8_paths.at 32 rfl) (by decide) (nrng hv.1) (fun q => ?_) (fun q => ?_)
  · replace hv := hv.2.1 q
    refine sw_iinc (lo' := [some (vr (0)), some (vi (((x : Nat) : Int))), some (vi (((y : Nat) : Int))), some (vi (((u : Nat) : Int))), some (vi (((i + 1 : Nat) : Int))), some (vi (((z : Nat) : Int)))]) (dX8_paths.at 42 rfl) rfl (by decide) rfl ?_
    refine sw_goto (tgt := 37) (dX8_paths.at 43 rfl) (by decide) ?_
    exact sw_mask (bs := [true, true, true, true, true, false]) hv
  · replace hv := hv.2.2 q
    refine sw_aload_n (dX8_paths.at 33 rfl) rfl rfl ?_
    refine sw_getR (dX8_paths.at 34 rfl) fp_X8_58 (S_lt 0 (by decide)) (S_0 nw nx g) rfl rfl ?_
    refine sw_iload (dX8_paths.at 35 rfl) rfl ?_
    refine sw_aload_n (dX8_paths.at 36 rfl) rfl rfl ?_
    refine sw_iload (dX8_paths.at 37 rfl) rfl ?_
    refine sw_callV (B' := B0) (As := [vi (((z : Nat) : Int))]) (mc := 0) (ms := 0) (dX8_paths.at 38 rfl) lk_X8_291 (S_lt 0 (by decide)) (S_0 nw nx g) rfl rfl (Nat.le_of_ble_eq_true rfl) rfl (Nat.le_refl _) (Nat.le_refl _) ?_
    refine c_X8_waysByMirrors (x := z) (j := j + 0) hnw hE hV hv.1 ?_
    replace hv := hv.2
    refine sw_lastN z (dX8_paths.at 39 rfl) (S_lt 20 (by decide)) (S_20 nw nx g) (by decide) hv.1 ?_
    replace hv := hv.2
    refine sw_iinc (lo' := [some (vr (0)), some (vi (((x : Nat) : Int))), some (vi (((y : Nat) : Int))), some (vi (((u : Nat) : Int))), some (vi (((i : Nat) : Int))), some (vi (((z : Nat) : Int) + (-1)))]) (dX8_paths.at 40 rfl) rfl (by decide) rfl ?_
    refine sw_goto (tgt := 58) (dX8_paths.at 41 rfl) (by decide) ?_
    exact hv

set_option maxHeartbeats 2000000 in
set_option maxRecDepth 20000 in
theorem g_X8_paths_58e {G : GG} {j nw nx gn : Nat} {g : Nat → Sh} {c : Nat → Nat → Int} {post : Option AV → AM → Prop} {x : Nat} {y : Nat} {u : Nat} {P : GD} {i : Nat} (hnw : nw = 21 ∨ nw = 35) (hE : EL c nw P) (hV : GV P)  (hv : SW G (j + 2) mX8_paths 37 [some (vr (0)), some (vi (((x : Nat) : Int))), some (vi (((y : Nat) : Int))), some (vi (((u : Nat) : Int))), some (vi (((i + 1 : Nat) : Int))), none] [] (S nw nx g, 78 + gn, c) B0 post) :
    SW G (j + 2) mX8_paths 58 [some (vr (0)), some (vi (((x : Nat) : Int))), some (vi (((y : Nat) : Int))), some (vi (((u : Nat) : Int))), some (vi (((i : Nat) : Int))), some (vi ((-1)))] [] (S nw nx g, 78 + gn, c) B0 post := by
  refine sw_iload (dX8_paths.at 31 rfl) rfl ?_
  refine sw_if_lt (tgt := 82) (dX8_paths.at 32 rfl) (by decide) (by decide) (fun q => ?_) (fun q => ?_)
  · clear q
    refine sw_iinc (lo' := [some (vr (0)), some (vi (((x : Nat) : Int))), some (vi (((y : Nat) : Int))), some (vi (((u : Nat) : Int))), some (vi (((i + 1 : Nat) : Int))), some (vi ((-1)))]) (dX8_paths.at 42 rfl) rfl (by decide) rfl ?_
    refine sw_goto (tgt := 37) (dX8_paths.at 43 rfl) (by decide) ?_
    exact sw_mask (bs := [true, true, true, true, true, false]) hv
  · exact absurd q (by decide)

set_option maxHeartbeats 2000000 in
set_option maxRecDepth 20000 in
theorem g_X8_paths_37 {G : GG} {j nw nx gn : Nat} {g : Nat → Sh} {c : Nat → Nat → Int} {post : Option AV → AM → Prop} {x : Nat} {y : Nat} {u : Nat} {P : GD} {i : Nat} (hnw : nw = 21 ∨ nw = 35) (hE : EL c nw P) (hV : GV P)  (hv : (i < 2147483648) ∧ (u < 2147483648) ∧ (((u ≤ i) → (y < 60) ∧ (post (some (vl (c 20 y))) (S nw nx g, 78 + gn, c))) ∧ ((¬ (u ≤ i)) → (i < 2147483648) ∧ (gTop P < 2147483648) ∧ (((gTop P < i) → (y < 60) ∧ (post (some (vl (c 20 y))) (S nw nx g, 78 + gn, c))) ∧ ((¬ (gTop P < i)) → SW G (j + 2) mX8_paths 58 [some (vr (0)), some (vi (((x : Nat) : Int))), some (vi (((y : Nat) : Int))), some (vi (((u : Nat) : Int))), some (vi (((i : Nat) : Int))), some (vi (((y : Nat) : Int)))] [] (S nw nx g, 78 + gn, c) B0 post))))) :
    SW G (j + 2) mX8_paths 37 [some (vr (0)), some (vi (((x : Nat) : Int))), some (vi (((y : Nat) : Int))), some (vi (((u : Nat) : Int))), some (vi (((i : Nat) : Int))), none] [] (S nw nx g, 78 + gn, c) B0 post := by
  refine sw_iload (dX8_paths.at 21 rfl) rfl ?_
  refine sw_iload_n (dX8_paths.at 22 rfl) rfl rfl ?_
  refine sw_icmpN_ge i u (tgt := 88) (dX8_paths.at 23 rfl) (by decide) hv.1 hv.2.1 (fun q => ?_) (fun q => ?_)
  · replace hv := hv.2.2.1 q
    refine sw_aload_n (dX8_paths.at 44 rfl) rfl rfl ?_
    refine sw_getR (dX8_paths.at 45 rfl) fp_X8_58 (S_lt 0 (by decide)) (S_0 nw nx g) rfl rfl ?_
    refine sw_iload_n (dX8_paths.at 46 rfl) rfl rfl ?_
    refine sw_laldN y (dX8_paths.at 47 rfl) (S_lt 20 (by decide)) (S_20 nw nx g) (by decide) hv.1 rfl ?_
    replace hv := hv.2
    exact sw_lret (dX8_paths.at 48 rfl) rfl (Nat.le_refl _) (Nat.le_refl _) hv
  · replace hv := hv.2.2.2 q
    refine sw_iload (dX8_paths.at 24 rfl) rfl ?_
    refine sw_aload_n (dX8_paths.at 25 rfl) rfl rfl ?_
    refine sw_getR (dX8_paths.at 26 rfl) fp_X8_65 (S_lt 0 (by decide)) (S_0 nw nx g) rfl rfl ?_
    refine sw_callV (B' := B0) (As := []) (mc := 0) (ms := 0) (dX8_paths.at 27 rfl) lk_X8_112 (S_e_lt hnw) (S_e hnw) rfl rfl (Nat.le_of_ble_eq_true rfl) rfl (Nat.le_refl _) (Nat.le_refl _) ?_
    refine c_X1_highest (e := nw) (j := j + 1) hnw hE hV ?_
    refine sw_icmpN_gt i (gTop P) (tgt := 88) (dX8_paths.at 28 rfl) (by decide) hv.1 hv.2.1 (fun q => ?_) (fun q => ?_)
    · replace hv := hv.2.2.1 q
      refine sw_aload_n (dX8_paths.at 44 rfl) rfl rfl ?_
      refine sw_getR (dX8_paths.at 45 rfl) fp_X8_58 (S_lt 0 (by decide)) (S_0 nw nx g) rfl rfl ?_
      refine sw_iload_n (dX8_paths.at 46 rfl) rfl rfl ?_
      refine sw_laldN y (dX8_paths.at 47 rfl) (S_lt 20 (by decide)) (S_20 nw nx g) (by decide) hv.1 rfl ?_
      replace hv := hv.2
      exact sw_lret (dX8_paths.at 48 rfl) rfl (Nat.le_refl _) (Nat.le_refl _) hv
    · replace hv := hv.2.2.2 q
      refine sw_iload_n (dX8_paths.at 29 rfl) rfl rfl ?_
      refine sw_istore (lo' := [some (vr (0)), some (vi (((x : Nat) : Int))), some (vi (((y : Nat) : Int))), some (vi (((u : Nat) : Int))), some (vi (((i : Nat) : Int))), some (vi (((y : Nat) : Int)))]) (dX8_paths.at 30 rfl) (by decide) rfl ?_
      exact hv

set_option maxHeartbeats 2000000 in
set_option maxRecDepth 20000 in
theorem g_X8_paths_0n {G : GG} {j nw nx gn : Nat} {g : Nat → Sh} {c : Nat → Nat → Int} {post : Option AV → AM → Prop} {x : Nat} {y : Nat} {u : Nat} {P : GD} (hnw : nw = 21 ∨ nw = 35) (hE : EL c nw P) (hV : GV P)  (hv : (-2147483648 ≤ ((x : Nat) : Int) ∧ ((x : Nat) : Int) < 2147483648) ∧ (-2147483648 ≤ ((y : Nat) : Int) ∧ ((y : Nat) : Int) < 2147483648) ∧ ((((decide ((0 ≤ ((x : Nat) : Int) ∧ ((x : Nat) : Int) < (gN P : Int)) ∧ 0 ≤ ((y : Nat) : Int) ∧ ((y : Nat) : Int) < (gN P : Int))) = false) → post (some (vl ((-2)))) (S nw nx g, 78 + gn, c)) ∧ (((decide ((0 ≤ ((x : Nat) : Int) ∧ ((x : Nat) : Int) < (gN P : Int)) ∧ 0 ≤ ((y : Nat) : Int) ∧ ((y : Nat) : Int) < (gN P : Int))) = true) → (u < 2147483648) ∧ (((((u : Nat) : Int) < 0) → post (some (vl ((-2)))) (S nw nx g, 78 + gn, c)) ∧ ((¬ (((u : Nat) : Int) < 0)) → (u < 2147483648) ∧ (((u ≤ 30) → (x < 60) ∧ (SW G (j + 2) mX8_paths 37 [some (vr (0)), some (vi (((x : Nat) : Int))), some (vi (((y : Nat) : Int))), some (vi (((u : Nat) : Int))), some (vi (0)), none] [] (S nw nx g, 78 + gn, (up2 (clW c 60) 20 x 1)) B0 post)) ∧ ((¬ (u ≤ 30)) → post (some (vl ((-2)))) (S nw nx g, 78 + gn, c)))))))) :
    SW G (j + 2) mX8_paths 0 [some (vr (0)), some (vi (((x : Nat) : Int))), some (vi (((y : Nat) : Int))), some (vi (((u : Nat) : Int))), none, none] [] (S nw nx g, 78 + gn, c) B0 post := by
  refine sw_aload_n (dX8_paths.at 0 rfl) rfl rfl ?_
  refine sw_iload_n (dX8_paths.at 1 rfl) rfl rfl ?_
  refine sw_iload_n (dX8_paths.at 2 rfl) rfl rfl ?_
  refine sw_callV (B' := B0) (As := [vi (((x : Nat) : Int)), vi (((y : Nat) : Int))]) (mc := 0) (ms := 0) (dX8_paths.at 3 rfl) lk_X8_157 (S_lt 0 (by decide)) (S_0 nw nx g) rfl rfl (Nat.le_of_ble_eq_true rfl) rfl (Nat.le_refl _) (Nat.le_refl _) ?_
  refine c_X8_arePair (x := ((x : Nat) : Int)) (y := ((y : Nat) : Int)) (j := j + 0) hnw hE hV hv.1 hv.2.1 ?_
  replace hv := hv.2.2
  refine sw_if_eq (tgt := 19) (dX8_paths.at 4 rfl) (by decide) (bz_rng _) (fun q => ?_) (fun q => ?_)
  · replace hv := hv.1 (bz_0 q)
    refine sw_ldc2 (z := (-2)) (dX8_paths.at 10 rfl) kc_X8_147 (by decide) ?_
    exact sw_lret (dX8_paths.at 11 rfl) rfl (Nat.le_refl _) (Nat.le_refl _) hv
  · replace hv := hv.2 (bz_n0 q)
    refine sw_iload_n (dX8_paths.at 5 rfl) rfl rfl ?_
    refine sw_if_lt (tgt := 19) (dX8_paths.at 6 rfl) (by decide) (nrng hv.1) (fun q => ?_) (fun q => ?_)
    · replace hv := hv.2.1 q
      refine sw_ldc2 (z := (-2)) (dX8_paths.at 10 rfl) kc_X8_147 (by decide) ?_
      exact sw_lret (dX8_paths.at 11 rfl) rfl (Nat.le_refl _) (Nat.le_refl _) hv
    · replace hv := hv.2.2 q
      refine sw_iload_n (dX8_paths.at 7 rfl) rfl rfl ?_
      refine sw_bipush (dX8_paths.at 8 rfl) (by decide) ?_
      refine sw_icmpN_le u 30 (tgt := 23) (dX8_paths.at 9 rfl) (by decide) hv.1 (by decide) (fun q => ?_) (fun q => ?_)
      · replace hv := hv.2.1 q
        refine sw_aload_n (dX8_paths.at 12 rfl) rfl rfl ?_
        refine sw_callV (B' := B0) (As := []) (mc := 0) (ms := 0) (dX8_paths.at 13 rfl) lk_X8_189 (S_lt 0 (by decide)) (S_0 nw nx g) rfl rfl (Nat.le_of_ble_eq_true rfl) rfl (Nat.le_refl _) (Nat.le_refl _) ?_
        refine c_X8_clearWays  (j := j + 1)  ?_
        refine sw_aload_n (dX8_paths.at 14 rfl) rfl rfl ?_
        refine sw_getR (dX8_paths.at 15 rfl) fp_X8_58 (S_lt 0 (by decide)) (S_0 nw nx g) rfl rfl ?_
        refine sw_iload_n (dX8_paths.at 16 rfl) rfl rfl ?_
        refine sw_lconst (z := 1) (dX8_paths.at 17 rfl) (by decide) ?_
        refine sw_lastN x (dX8_paths.at 18 rfl) (S_lt 20 (by decide)) (S_20 nw nx g) (by decide) hv.1 ?_
        replace hv := hv.2
        refine sw_iconst (dX8_paths.at 19 rfl) ?_
        refine sw_istore (lo' := [some (vr (0)), some (vi (((x : Nat) : Int))), some (vi (((y : Nat) : Int))), some (vi (((u : Nat) : Int))), some (vi (0)), none]) (dX8_paths.at 20 rfl) (by decide) rfl ?_
        exact hv
      · replace hv := hv.2.2 q
        refine sw_ldc2 (z := (-2)) (dX8_paths.at 10 rfl) kc_X8_147 (by decide) ?_
        exact sw_lret (dX8_paths.at 11 rfl) rfl (Nat.le_refl _) (Nat.le_refl _) hv

set_option maxHeartbeats 2000000 in
set_option maxRecDepth 20000 in
theorem g_X8_paths_0 {G : GG} {j nw nx gn : Nat} {g : Nat → Sh} {c : Nat → Nat → Int} {post : Option AV → AM → Prop} {x : Int} {y : Int} {u : Int} {P : GD} (hnw : nw = 21 ∨ nw = 35) (hE : EL c nw P) (hV : GV P)  (hv : (-2147483648 ≤ x ∧ x < 2147483648) ∧ (-2147483648 ≤ y ∧ y < 2147483648) ∧ ((((decide ((0 ≤ x ∧ x < (gN P : Int)) ∧ 0 ≤ y ∧ y < (gN P : Int))) = false) → post (some (vl ((-2)))) (S nw nx g, 78 + gn, c)) ∧ (((decide ((0 ≤ x ∧ x < (gN P : Int)) ∧ 0 ≤ y ∧ y < (gN P : Int))) = true) → (-2147483648 ≤ u ∧ u < 2147483648) ∧ (((u < 0) → post (some (vl ((-2)))) (S nw nx g, 78 + gn, c)) ∧ ((¬ (u < 0)) → (-2147483648 ≤ u ∧ u < 2147483648) ∧ (((u ≤ 30) → (0 ≤ x) ∧ (x < 60) ∧ (SW G (j + 2) mX8_paths 37 [some (vr (0)), some (vi (x)), some (vi (y)), some (vi (u)), some (vi (0)), none] [] (S nw nx g, 78 + gn, (up2 (clW c 60) 20 x.toNat 1)) B0 post)) ∧ ((¬ (u ≤ 30)) → post (some (vl ((-2)))) (S nw nx g, 78 + gn, c)))))))) :
    SW G (j + 2) mX8_paths 0 [some (vr (0)), some (vi (x)), some (vi (y)), some (vi (u)), none, none] [] (S nw nx g, 78 + gn, c) B0 post := by
  refine sw_aload_n (dX8_paths.at 0 rfl) rfl rfl ?_
  refine sw_iload_n (dX8_paths.at 1 rfl) rfl rfl ?_
  refine sw_iload_n (dX8_paths.at 2 rfl) rfl rfl ?_
  refine sw_callV (B' := B0) (As := [vi (x), vi (y)]) (mc := 0) (ms := 0) (dX8_paths.at 3 rfl) lk_X8_157 (S_lt 0 (by decide)) (S_0 nw nx g) rfl rfl (Nat.le_of_ble_eq_true rfl) rfl (Nat.le_refl _) (Nat.le_refl _) ?_
  refine c_X8_arePair (x := x) (y := y) (j := j + 0) hnw hE hV hv.1 hv.2.1 ?_
  replace hv := hv.2.2
  refine sw_if_eq (tgt := 19) (dX8_paths.at 4 rfl) (by decide) (bz_rng _) (fun q => ?_) (fun q => ?_)
  · replace hv := hv.1 (bz_0 q)
    refine sw_ldc2 (z := (-2)) (dX8_paths.at 10 rfl) kc_X8_147 (by decide) ?_
    exact sw_lret (dX8_paths.at 11 rfl) rfl (Nat.le_refl _) (Nat.le_refl _) hv
  · replace hv := hv.2 (bz_n0 q)
    refine sw_iload_n (dX8_paths.at 5 rfl) rfl rfl ?_
    refine sw_if_lt (tgt := 19) (dX8_paths.at 6 rfl) (by decide) hv.1 (fun q => ?_) (fun q => ?_)
    · replace hv := hv.2.1 q
      refine sw_ldc2 (z := (-2)) (dX8_paths.at 10 rfl) kc_X8_147 (by decide) ?_
      exact sw_lret (dX8_paths.at 11 rfl) rfl (Nat.le_refl _) (Nat.le_refl _) hv
    · replace hv := hv.2.2 q
      refine sw_iload_n (dX8_paths.at 7 rfl) rfl rfl ?_
      refine sw_bipush (dX8_paths.at 8 rfl) (by decide) ?_
      refine sw_icmp_le (tgt := 23) (dX8_paths.at 9 rfl) (by decide) hv.1 (by decide) (fun q => ?_) (fun q => ?_)
      · replace hv := hv.2.1 q
        refine sw_aload_n (dX8_paths.at 12 rfl) rfl rfl ?_
        refine sw_callV (B' := B0) (As := []) (mc := 0) (ms := 0) (dX8_paths.at 13 rfl) lk_X8_189 (S_lt 0 (by decide)) (S_0 nw nx g) rfl rfl (Nat.le_of_ble_eq_true rfl) rfl (Nat.le_refl _) (Nat.le_refl _) ?_
        refine c_X8_clearWays  (j := j + 1)  ?_
        refine sw_aload_n (dX8_paths.at 14 rfl) rfl rfl ?_
        refine sw_getR (dX8_paths.at 15 rfl) fp_X8_58 (S_lt 0 (by decide)) (S_0 nw nx g) rfl rfl ?_
        refine sw_iload_n (dX8_paths.at 16 rfl) rfl rfl ?_
        refine sw_lconst (z := 1) (dX8_paths.at 17 rfl) (by decide) ?_
        refine sw_last (dX8_paths.at 18 rfl) (S_lt 20 (by decide)) (S_20 nw nx g) (by decide) hv.1 hv.2.1 ?_
        replace hv := hv.2.2
        refine sw_iconst (dX8_paths.at 19 rfl) ?_
        refine sw_istore (lo' := [some (vr (0)), some (vi (x)), some (vi (y)), some (vi (u)), some (vi (0)), none]) (dX8_paths.at 20 rfl) (by decide) rfl ?_
        exact hv
      · replace hv := hv.2.2 q
        refine sw_ldc2 (z := (-2)) (dX8_paths.at 10 rfl) kc_X8_147 (by decide) ?_
        exact sw_lret (dX8_paths.at 11 rfl) rfl (Nat.le_refl _) (Nat.le_refl _) hv

set_option maxHeartbeats 2000000 in
theorem lp_X8_paths_58 {G : GG} {j nw nx gn : Nat} {g : Nat → Sh} {c : Nat → Nat → Int} {post : Option AV → AM → Prop} {P : GD} {x y u i : Nat} (hnw : nw = 21 ∨ nw = 35) (hV : GV P) : ∀ k : Nat, k ≤ gN P → ∀ c : Nat → Nat → Int, EL c nw P →
    SW G (j + 2) mX8_paths 37 [some (vr (0)), some (vi (((x : Nat) : Int))), some (vi (((y : Nat) : Int))), some (vi (((u : Nat) : Int))), some (vi (((i + 1 : Nat) : Int))), none] [] (S nw nx g, 78 + gn, paM P c k) B0 post →
    SW G (j + 2) mX8_paths 58 [some (vr (0)), some (vi (((x : Nat) : Int))), some (vi (((y : Nat) : Int))), some (vi (((u : Nat) : Int))), some (vi (((i : Nat) : Int))), some (vi ((k : Int) - 1))] [] (S nw nx g, 78 + gn, c) B0 post := by
  have h60 := GV_N hV
  intro k
  induction k with
  | zero =>
    intro _ c hE K
    have e : (((0 : Nat) : Int) - 1) = (-1) := by omega
    rw [e]
    refine g_X8_paths_58e hnw hE hV ?_
    exact K
  | succ k ih =>
    intro hk c hE K
    have e : (((k + 1 : Nat) : Int) - 1) = ((k : Nat) : Int) := by omega
    have e2 : ((k : Nat) : Int) + (-1) = (k : Int) - 1 := by omega
    rw [e]
    rw [paM] at K
    refine g_X8_paths_58 hnw hE hV ?_
    rw [e2]
    refine ⟨?_, ⟨fun q => ?_, fun q => ⟨?_, ⟨?_, ?_⟩⟩⟩⟩
    all_goals first | omega | assumption | (exfalso; omega) | exact ih (by omega) _ (EL_up hE hnw (by decide)) K
set_option maxHeartbeats 2000000 in
theorem lp_X8_paths_37 {G : GG} {j nw nx gn : Nat} {g : Nat → Sh} {c : Nat → Nat → Int} {post : Option AV → AM → Prop} {P : GD} {x y u : Nat} (hnw : nw = 21 ∨ nw = 35) (hE : EL c nw P) (hV : GV P) (hx : x < gN P) (hy : y < gN P) (hu : u ≤ 30) (K : ∀ c2 : Nat → Nat → Int, (∀ a, a ≠ 20 → c2 a = c a) → c2 20 y = opF P x y (min u (gTop P + 1)) y → post (some (vl (c2 20 y))) (S nw nx g, 78 + gn, c2)) :
    ∀ k i : Nat, i + k = min u (gTop P + 1) → SW G (j + 2) mX8_paths 37 [some (vr (0)), some (vi (((x : Nat) : Int))), some (vi (((y : Nat) : Int))), some (vi (((u : Nat) : Int))), some (vi (((i : Nat) : Int))), none] [] (S nw nx g, 78 + gn, opM P c x y i) B0 post := by
  have h60 := GV_N hV
  have hT : gTop P ≤ 13 := by
    unfold gTop
    split
    · omega
    · exact (hV.2.2.1 _ (by omega)).1
  have hEd : ∀ d, EL (opM P c x y d) nw P := fun d => EL_same hE (fun q hq => opM_off P c x y d (nw + q) (by omega))
  intro k
  induction k with
  | zero =>
    intro i hi
    refine g_X8_paths_37 hnw (hEd i) hV ?_
    have e : i = min u (gTop P + 1) := by omega
    have K2 := K (opM P c x y i) (fun a ha => opM_off P c x y i a ha) (by rw [opM_in hV c hy i y (by omega), e])
    refine ⟨?_, ?_, ⟨fun q => ⟨?_, ?_⟩, fun q => ⟨?_, ?_, ⟨fun q => ⟨?_, ?_⟩, fun q => ?_⟩⟩⟩⟩
    all_goals first | exact K2 | omega | (exfalso; omega)
  | succ k ih =>
    intro i hi
    refine g_X8_paths_37 hnw (hEd i) hV ?_
    have h := ih (i + 1) (by omega)
    rw [opM] at h
    have h2 := lp_X8_paths_58 (c := c) (G := G) (j := j) (nx := nx) (gn := gn) (g := g) (post := post) (x := x) (y := y) (u := u) (i := i) hnw hV (y + 1) (by omega) _ (hEd i) h
    have e : (((y + 1 : Nat) : Int) - 1) = ((y : Nat) : Int) := by omega
    rw [e] at h2
    refine ⟨?_, ?_, ⟨fun q => ⟨?_, ?_⟩, fun q => ⟨?_, ?_, ⟨fun q => ⟨?_, ?_⟩, fun q => ?_⟩⟩⟩⟩
    all_goals first | omega | assumption | (exfalso; omega) | exact h2

set_option maxHeartbeats 4000000 in
theorem c_X8_paths {G : GG} {j nw nx gn : Nat} {g : Nat → Sh} {c : Nat → Nat → Int} {post : Option AV → AM → Prop} {P : GD} {x y u : Int} (hnw : nw = 21 ∨ nw = 35) (hE : EL c nw P) (hV : GV P) (p1 : -2147483648 ≤ x ∧ x < 2147483648) (p2 : -2147483648 ≤ y ∧ y < 2147483648) (p3 : -2147483648 ≤ u ∧ u < 2147483648) (K : ∀ c2 : Nat → Nat → Int, (∀ a, a ≠ 20 → c2 a = c a) → post (some (vl (q_paths P x y u))) (S nw nx g, 78 + gn, c2)) : SM G (j + 3) mX8_paths [vr 0, vi x, vi y, vi u] (S nw nx g, 78 + gn, c) 0 0 post := by
  refine sm_of wX8_paths rfl (Nat.le_of_ble_eq_true rfl) ?_
  have hN60 := GV_N hV
  by_cases hv : ((0 ≤ x ∧ x < (gN P : Int)) ∧ 0 ≤ y ∧ y < (gN P : Int)) ∧ 0 ≤ u ∧ u ≤ 30
  · obtain ⟨x, rfl⟩ : ∃ n : Nat, x = (n : Int) := ⟨x.toNat, by omega⟩
    obtain ⟨y, rfl⟩ : ∃ n : Nat, y = (n : Int) := ⟨y.toNat, by omega⟩
    obtain ⟨u, rfl⟩ : ∃ n : Nat, u = (n : Int) := ⟨u.toNat, by omega⟩
    have hx : x < gN P := by omega
    have hy : y < gN P := by omega
    rw [q_paths, if_pos hv] at K
    simp only [Int.toNat_natCast] at K
    refine g_X8_paths_0n hnw hE hV ?_
    refine ⟨?_, ?_, ⟨fun q => ?_, fun q => ⟨?_, ⟨fun q => ?_, fun q => ⟨?_, ⟨fun q => ⟨?_, ?_⟩, fun q => ?_⟩⟩⟩⟩⟩⟩
    all_goals first | omega | assumption | (exfalso; simp only [decide_eq_true_eq, decide_eq_false_iff_not] at *; omega) | exact lp_X8_paths_37 hnw hE hV hx hy (by omega) (fun c2 h1 h2 => by rw [h2]; exact K c2 h1) (min u (gTop P + 1)) 0 (by omega)
  · rw [q_paths, if_neg hv] at K
    have K := K c (fun _ _ => rfl)
    refine g_X8_paths_0 hnw hE hV ?_
    refine ⟨?_, ?_, ⟨fun q => ?_, fun q => ⟨?_, ⟨fun q => ?_, fun q => ⟨?_, ⟨fun q => ⟨?_, ?_, ?_⟩, fun q => ?_⟩⟩⟩⟩⟩⟩
    all_goals first | exact K | omega | assumption | (exfalso; simp only [decide_eq_true_eq, decide_eq_false_iff_not] at *; omega)

