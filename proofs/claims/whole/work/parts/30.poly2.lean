abbrev PT := Nat → Nat → Nat → Int
abbrev CO := Nat → Nat → Int
/-- columns before w are T's, column w is col -/
def CW (P : GD) (T : PT) (w : Nat) (col : CO) (f : Nat → Int) : Prop :=
  (∀ v w2 k, v < gN P → w2 < w → k < 8 → f ((v * 60 + w2) * 8 + k) = T v w2 k) ∧ ∀ v k, v < gN P → k < 8 → f ((v * 60 + w) * 8 + k) = col v k
def adC (T : PT) (v x y t : Nat) (o : Int) (col : CO) : CO := fun a k => if a = v then col a k + (if t ≤ k then o * T x y (k - t) else 0) else col a k
def adD (v x : Nat) (col : CO) : CO := fun a k => if a = v then col a k + col x k else col a k
theorem adS_at {f : Nat → Int} {p r t : Nat} {o : Int} {k : Nat} (hk : k < 8) : adS f p r t o 0 (p + k) = f (p + k) + (if t ≤ k then o * f (r + (k - t)) else 0) := by
  simp only [adS]
  by_cases h : t ≤ k
  · rw [if_pos (by omega), if_pos h]
    congr 3
    omega
  · rw [if_neg (by omega), if_neg h]; omega
theorem adS_off {f : Nat → Int} {p r t : Nat} {o : Int} {i : Nat} (h : i < p ∨ p + 8 ≤ i) : adS f p r t o 0 i = f i := by
  simp only [adS]
  rw [if_neg (by omega)]
theorem CW_ad {P : GD} {T : PT} {w : Nat} {col : CO} {f : Nat → Int} (h : CW P T w col f) (hN : gN P ≤ 60) (hw : w < 60) {v x y t : Nat} {o : Int} (hv : v < gN P) (hx : x < gN P) (hy : y < w) : CW P T w (adC T v x y t o col) (adS f ((v * 60 + w) * 8) ((x * 60 + y) * 8) t o 0) := by
  refine ⟨fun a w2 k ha hw2 hk => ?_, fun a k ha hk => ?_⟩
  · rw [adS_off (by omega)]; exact h.1 a w2 k ha hw2 hk
  · simp only [adC]
    by_cases e : a = v
    · subst e
      rw [adS_at hk, if_pos rfl, h.2 a k ha hk]
      split
      · rw [h.1 x y (k - t) hx hy (by omega)]
      · rfl
    · rw [if_neg e, adS_off (by omega)]; exact h.2 a k ha hk
theorem CW_adD {P : GD} {T : PT} {w : Nat} {col : CO} {f : Nat → Int} (h : CW P T w col f) (hN : gN P ≤ 60) (hw : w < 60) {v x : Nat} (hv : v < gN P) (hx : x < gN P) : CW P T w (adD v x col) (adS f ((v * 60 + w) * 8) ((x * 60 + w) * 8) 0 1 0) := by
  refine ⟨fun a w2 k ha hw2 hk => ?_, fun a k ha hk => ?_⟩
  · rw [adS_off (by omega)]; exact h.1 a w2 k ha hw2 hk
  · simp only [adD]
    by_cases e : a = v
    · subst e
      rw [adS_at hk, if_pos rfl, h.2 a k ha hk, if_pos (Nat.zero_le _), Nat.sub_zero, h.2 x k hx hk, Int.one_mul]
    · rw [if_neg e, adS_off (by omega)]; exact h.2 a k ha hk
def tkC (P : GD) (T : PT) (s z t : Nat) (o : Int) (col : CO) : Nat → CO
  | 0 => col
  | x + 1 => if (gE P x).testBit s ∧ (gD P z).testBit x then adC T x x z t o (tkC P T s z t o col x) else tkC P T s z t o col x
def tkS (P : GD) (s w z t : Nat) (o : Int) (f : Nat → Int) : Nat → Nat → Int
  | 0 => f
  | x + 1 => if (gE P x).testBit s ∧ (gD P z).testBit x then adS (tkS P s w z t o f x) ((x * 60 + w) * 8) ((x * 60 + z) * 8) t o 0 else tkS P s w z t o f x
theorem CW_tk {P : GD} {T : PT} {w : Nat} {col : CO} {f : Nat → Int} (h : CW P T w col f) (hN : gN P ≤ 60) (hw : w < gN P) {s z t : Nat} {o : Int} (hz : z < w) : ∀ x, x ≤ z + 1 → CW P T w (tkC P T s z t o col x) (tkS P s w z t o f x) := by
  intro x
  induction x with
  | zero => intro _; exact h
  | succ x ih =>
    intro hx
    rw [tkC, tkS]
    split
    · exact CW_ad (ih (by omega)) hN (by omega) (by omega) (by omega) hz
    · exact ih (by omega)
set_option maxHeartbeats 2000000 in
set_option maxRecDepth 20000 in
theorem g_X4_takeAway_28 {G : GG} {j nw nx gn : Nat} {g : Nat → Sh} {c : Nat → Nat → Int} {post : Option AV → AM → Prop} {e : Nat} {w : Nat} {z : Nat} {o : Int} (he : e = 21 ∨ e = 35) {P : GD} {s : Nat} {t : Nat} {x : Nat} {f : Nat → Int} (hE : EL c e P) (hV : GV P)  (hv : (x < 2147483648) ∧ (z < 2147483648) ∧ (((z < x) → post none (S nw nx g, 78 + gn, (wr c 6 f))) ∧ ((¬ (z < x)) → (x < gN P) ∧ ((gE P x < 2147483648) ∧ (((gE P x) < 9223372036854775808) ∧ (s < 64) ∧ (((((gE P x).testBit s) = false) → SW G (j + 2) mX4_takeAway 28 [some (vr (5)), some (vr (e)), some (vi (((w : Nat) : Int))), some (vi (((z : Nat) : Int))), some (vi (o)), some (vi (((s : Nat) : Int))), some (vi (((t : Nat) : Int))), some (vi (((x + 1 : Nat) : Int)))] [] (S nw nx g, 78 + gn, (wr c 6 f)) B0 post) ∧ ((((gE P x).testBit s) = true) → (x < gN P) ∧ (z < gN P) ∧ (((((gD P z).testBit x) = false) → SW G (j + 2) mX4_takeAway 28 [some (vr (5)), some (vr (e)), some (vi (((w : Nat) : Int))), some (vi (((z : Nat) : Int))), some (vi (o)), some (vi (((s : Nat) : Int))), some (vi (((t : Nat) : Int))), some (vi (((x + 1 : Nat) : Int)))] [] (S nw nx g, 78 + gn, (wr c 6 f)) B0 post) ∧ ((((gD P z).testBit x) = true) → (x < 60) ∧ (w < 60) ∧ (x < 60) ∧ (z < 60) ∧ (t < 100) ∧ ((x * 60 + z) * 8 + 8 ≤ (x * 60 + w) * 8 ∨ (x * 60 + w) * 8 + 8 ≤ (x * 60 + z) * 8) ∧ (SW G (j + 2) mX4_takeAway 28 [some (vr (5)), some (vr (e)), some (vi (((w : Nat) : Int))), some (vi (((z : Nat) : Int))), some (vi (o)), some (vi (((s : Nat) : Int))), some (vi (((t : Nat) : Int))), some (vi (((x + 1 : Nat) : Int)))] [] (S nw nx g, 78 + gn, (wr (wr c 6 f) 6 (adS ((wr c 6 f) 6) ((x * 60 + w) * 8) ((x * 60 + z) * 8) t (-o) 0))) B0 post)))))))))) :
    SW G (j + 2) mX4_takeAway 28 [some (vr (5)), some (vr (e)), some (vi (((w : Nat) : Int))), some (vi (((z : Nat) : Int))), some (vi (o)), some (vi (((s : Nat) : Int))), some (vi (((t : Nat) : Int))), some (vi (((x : Nat) : Int)))] [] (S nw nx g, 78 + gn, (wr c 6 f)) B0 post := by
  refine sw_iload (dX4_takeAway.at 19 rfl) rfl ?_
  refine sw_iload_n (dX4_takeAway.at 20 rfl) rfl rfl ?_
  refine sw_icmpN_gt x z (tgt := 81) (dX4_takeAway.at 21 rfl) (by decide) hv.1 hv.2.1 (fun q => ?_) (fun q => ?_)
  · replace hv := hv.2.2.1 q
    exact sw_vret (dX4_takeAway.at 46 rfl) rfl (Nat.le_refl _) (Nat.le_refl _) hv
  · replace hv := hv.2.2.2 q
    refine sw_aload_n (dX4_takeAway.at 22 rfl) rfl rfl ?_
    refine sw_getR (dX4_takeAway.at 23 rfl) fp_X4_59 (S_e_lt he) (S_e he) rfl rfl ?_
    refine sw_iload (dX4_takeAway.at 24 rfl) rfl ?_
    refine sw_ialdN x (w := ((gE P x : Nat) : Int)) (dX4_takeAway.at 25 rfl) (S_ek_lt he (by decide)) (S_e_9 he) (by decide) (GV_lt hV hv.1) (EL_E (EL_wr (a := 6) (f := f) hE he (by decide)) hv.1) ?_
    replace hv := hv.2
    refine sw_i2l (dX4_takeAway.at 26 rfl) (nrng hv.1) ?_
    replace hv := hv.2
    refine sw_iload (dX4_takeAway.at 27 rfl) rfl ?_
    refine sw_callN (B' := B0) (As := [vl (((gE P x : Nat) : Int)), vi (((s : Nat) : Int))]) (mc := 0) (ms := 0) (dX4_takeAway.at 28 rfl) lk_X4_62 rfl rfl (Nat.le_of_ble_eq_true rfl) rfl (Nat.le_refl _) (Nat.le_refl _) ?_
    refine c_X8_hasBit (s := (gE P x)) (i := s) (j := j + 1) hv.1 hv.2.1 ?_
    replace hv := hv.2.2
    refine sw_if_eq (tgt := 75) (dX4_takeAway.at 29 rfl) (by decide) (bz_rng _) (fun q => ?_) (fun q => ?_)
    · replace hv := hv.1 (bz_0 q)
      refine sw_iinc (lo' := [some (vr (5)), some (vr (e)), some (vi (((w : Nat) : Int))), some (vi (((z : Nat) : Int))), some (vi (o)), some (vi (((s : Nat) : Int))), some (vi (((t : Nat) : Int))), some (vi (((x + 1 : Nat) : Int)))]) (dX4_takeAway.at 44 rfl) rfl (by decide) rfl ?_
      refine sw_goto (tgt := 28) (dX4_takeAway.at 45 rfl) (by decide) ?_
      exact hv
    · replace hv := hv.2 (bz_n0 q)
      refine sw_aload_n (dX4_takeAway.at 30 rfl) rfl rfl ?_
      refine sw_iload (dX4_takeAway.at 31 rfl) rfl ?_
      refine sw_iload_n (dX4_takeAway.at 32 rfl) rfl rfl ?_
      refine sw_callV (B' := B0) (As := [vi (((x : Nat) : Int)), vi (((z : Nat) : Int))]) (mc := 0) (ms := 0) (dX4_takeAway.at 33 rfl) lk_X4_66 (S_e_lt he) (S_e he) rfl rfl (Nat.le_of_ble_eq_true rfl) rfl (Nat.le_refl _) (Nat.le_refl _) ?_
      refine c_X1_isBelow (e := e) (v := x) (w := z) (j := j + 0) he (EL_wr (a := 6) (f := f) hE he (by decide)) hV hv.1 hv.2.1 ?_
      replace hv := hv.2.2
      refine sw_if_eq (tgt := 75) (dX4_takeAway.at 34 rfl) (by decide) (bz_rng _) (fun q => ?_) (fun q => ?_)
      · replace hv := hv.1 (bz_0 q)
        refine sw_iinc (lo' := [some (vr (5)), some (vr (e)), some (vi (((w : Nat) : Int))), some (vi (((z : Nat) : Int))), some (vi (o)), some (vi (((s : Nat) : Int))), some (vi (((t : Nat) : Int))), some (vi (((x + 1 : Nat) : Int)))]) (dX4_takeAway.at 44 rfl) rfl (by decide) rfl ?_
        refine sw_goto (tgt := 28) (dX4_takeAway.at 45 rfl) (by decide) ?_
        exact hv
      · replace hv := hv.2 (bz_n0 q)
        refine sw_aload_n (dX4_takeAway.at 35 rfl) rfl rfl ?_
        refine sw_iload (dX4_takeAway.at 36 rfl) rfl ?_
        refine sw_iload_n (dX4_takeAway.at 37 rfl) rfl rfl ?_
        refine sw_iload (dX4_takeAway.at 38 rfl) rfl ?_
        refine sw_iload_n (dX4_takeAway.at 39 rfl) rfl rfl ?_
        refine sw_iload (dX4_takeAway.at 40 rfl) rfl ?_
        refine sw_iload (dX4_takeAway.at 41 rfl) rfl ?_
        refine sw_ineg (dX4_takeAway.at 42 rfl) ?_
        refine sw_callV (B' := B0) (As := [vi (((x : Nat) : Int)), vi (((w : Nat) : Int)), vi (((x : Nat) : Int)), vi (((z : Nat) : Int)), vi (((t : Nat) : Int)), vi (-o)]) (mc := 0) (ms := 0) (dX4_takeAway.at 43 rfl) lk_X4_72 (S_lt 5 (by decide)) (S_5 nw nx g) rfl rfl (Nat.le_of_ble_eq_true rfl) rfl (Nat.le_refl _) (Nat.le_refl _) ?_
        refine c_X4_add (v := x) (w := w) (x := x) (y := z) (t := t) (o := (-o)) (j := j + 0) hv.1 hv.2.1 hv.2.2.1 hv.2.2.2.1 hv.2.2.2.2.1 hv.2.2.2.2.2.1 ?_
        replace hv := hv.2.2.2.2.2.2
        refine sw_iinc (lo' := [some (vr (5)), some (vr (e)), some (vi (((w : Nat) : Int))), some (vi (((z : Nat) : Int))), some (vi (o)), some (vi (((s : Nat) : Int))), some (vi (((t : Nat) : Int))), some (vi (((x + 1 : Nat) : Int)))]) (dX4_takeAway.at 44 rfl) rfl (by decide) rfl ?_
        refine sw_goto (tgt := 28) (dX4_takeAway.at 45 rfl) (by decide) ?_
        exact hv

set_option maxHeartbeats 2000000 in
theorem lp_X4_takeAway_28 {G : GG} {j nw nx gn : Nat} {g : Nat → Sh} {c : Nat → Nat → Int} {post : Option AV → AM → Prop} {P : GD} {e w z s t : Nat} {o : Int} {f : Nat → Int} (he : e = 21 ∨ e = 35) (hE : EL c e P) (hV : GV P) (hw : w < gN P) (hz : z < w) (hs : s < gR P) (ht : t < 100) (K : post none (S nw nx g, 78 + gn, wr c 6 (tkS P s w z t (-o) f (z + 1)))) : ∀ k x : Nat, x + k = z + 1 → SW G (j + 2) mX4_takeAway 28 [some (vr (5)), some (vr (e)), some (vi (((w : Nat) : Int))), some (vi (((z : Nat) : Int))), some (vi (o)), some (vi (((s : Nat) : Int))), some (vi (((t : Nat) : Int))), some (vi (((x : Nat) : Int)))] [] (S nw nx g, 78 + gn, wr c 6 (tkS P s w z t (-o) f x)) B0 post := by
  have h60 := GV_N hV
  have h5 := GV_R hV
  intro k
  induction k with
  | zero =>
    intro x hx
    have e2 : x = z + 1 := by omega
    subst e2
    refine g_X4_takeAway_28 he hE hV ?_
    refine ⟨?_, ?_, ⟨fun q => ?_, fun q => ⟨?_, ⟨?_, ⟨?_, ?_, ⟨fun q => ?_, fun q => ⟨?_, ?_, ⟨fun q => ?_, fun q => ⟨?_, ?_, ?_, ?_, ?_, ?_, ?_⟩⟩⟩⟩⟩⟩⟩⟩⟩
    all_goals first | exact K | omega | (exfalso; omega)
  | succ k ih =>
    intro x hx
    have fE := (hV.2.2.1 x (by omega)).2.2.2.2.2.1
    have h := ih (x + 1) (by omega)
    rw [tkS] at h
    refine g_X4_takeAway_28 he hE hV ?_
    refine ⟨?_, ?_, ⟨fun q => ?_, fun q => ⟨?_, ⟨?_, ⟨?_, ?_, ⟨fun q => ?_, fun q => ⟨?_, ?_, ⟨fun q => ?_, fun q => ⟨?_, ?_, ?_, ?_, ?_, ?_, ?_⟩⟩⟩⟩⟩⟩⟩⟩⟩
    all_goals first | omega | assumption | (exfalso; omega) | (simp only [*, Bool.false_eq_true, and_false, false_and, if_false, and_self, if_true] at h; first | exact h | simpa only [wr_wr, wr_at] using h)

set_option maxHeartbeats 2000000 in
set_option maxRecDepth 20000 in
theorem g_X4_takeAway_0 {G : GG} {j nw nx gn : Nat} {g : Nat → Sh} {c : Nat → Nat → Int} {post : Option AV → AM → Prop} {e : Nat} {w : Nat} {z : Nat} {o : Int} (he : e = 21 ∨ e = 35) {P : GD} (hE : EL c e P) (hV : GV P)  (hv : (w < gN P) ∧ ((w < gN P) ∧ ((z < gN P) ∧ ((gL P z ≤ gL P w) ∧ (((gL P w) - (gL P z) < 2147483648) ∧ (SW G (j + 2) mX4_takeAway 28 [some (vr (5)), some (vr (e)), some (vi (((w : Nat) : Int))), some (vi (((z : Nat) : Int))), some (vi (o)), some (vi (((gA P w : Nat) : Int))), some (vi (((((gL P w) - (gL P z)) / 2 : Nat) : Int))), some (vi (0))] [] (S nw nx g, 78 + gn, c) B0 post)))))) :
    SW G (j + 2) mX4_takeAway 0 [some (vr (5)), some (vr (e)), some (vi (((w : Nat) : Int))), some (vi (((z : Nat) : Int))), some (vi (o)), none, none, none] [] (S nw nx g, 78 + gn, c) B0 post := by
  refine sw_aload_n (dX4_takeAway.at 0 rfl) rfl rfl ?_
  refine sw_getR (dX4_takeAway.at 1 rfl) fp_X4_56 (S_e_lt he) (S_e he) rfl rfl ?_
  refine sw_iload_n (dX4_takeAway.at 2 rfl) rfl rfl ?_
  refine sw_ialdN w (w := ((gA P w : Nat) : Int)) (dX4_takeAway.at 3 rfl) (S_ek_lt he (by decide)) (S_e_4 he) (by decide) (GV_lt hV hv.1) (EL_A hE hv.1) ?_
  replace hv := hv.2
  refine sw_istore (lo' := [some (vr (5)), some (vr (e)), some (vi (((w : Nat) : Int))), some (vi (((z : Nat) : Int))), some (vi (o)), some (vi (((gA P w : Nat) : Int))), none, none]) (dX4_takeAway.at 4 rfl) (by decide) rfl ?_
  refine sw_aload_n (dX4_takeAway.at 5 rfl) rfl rfl ?_
  refine sw_getR (dX4_takeAway.at 6 rfl) fp_X4_37 (S_e_lt he) (S_e he) rfl rfl ?_
  refine sw_iload_n (dX4_takeAway.at 7 rfl) rfl rfl ?_
  refine sw_ialdN w (w := ((gL P w : Nat) : Int)) (dX4_takeAway.at 8 rfl) (S_ek_lt he (by decide)) (S_e_2 he) (by decide) (GV_lt hV hv.1) (EL_L hE hv.1) ?_
  replace hv := hv.2
  refine sw_aload_n (dX4_takeAway.at 9 rfl) rfl rfl ?_
  refine sw_getR (dX4_takeAway.at 10 rfl) fp_X4_37 (S_e_lt he) (S_e he) rfl rfl ?_
  refine sw_iload_n (dX4_takeAway.at 11 rfl) rfl rfl ?_
  refine sw_ialdN z (w := ((gL P z : Nat) : Int)) (dX4_takeAway.at 12 rfl) (S_ek_lt he (by decide)) (S_e_2 he) (by decide) (GV_lt hV hv.1) (EL_L hE hv.1) ?_
  replace hv := hv.2
  refine sw_isub (dX4_takeAway.at 13 rfl) ?_
  refine sw_topI (y := (((gL P w) - (gL P z) : Nat) : Int)) (congrArg _ (Int.ofNat_sub hv.1).symm) ?_
  replace hv := hv.2
  refine sw_iconst (dX4_takeAway.at 14 rfl) ?_
  refine sw_idivN ((gL P w) - (gL P z)) 2 (dX4_takeAway.at 15 rfl) (by decide) (by decide) hv.1 ?_
  replace hv := hv.2
  refine sw_istore (lo' := [some (vr (5)), some (vr (e)), some (vi (((w : Nat) : Int))), some (vi (((z : Nat) : Int))), some (vi (o)), some (vi (((gA P w : Nat) : Int))), some (vi (((((gL P w) - (gL P z)) / 2 : Nat) : Int))), none]) (dX4_takeAway.at 16 rfl) (by decide) rfl ?_
  refine sw_iconst (dX4_takeAway.at 17 rfl) ?_
  refine sw_istore (lo' := [some (vr (5)), some (vr (e)), some (vi (((w : Nat) : Int))), some (vi (((z : Nat) : Int))), some (vi (o)), some (vi (((gA P w : Nat) : Int))), some (vi (((((gL P w) - (gL P z)) / 2 : Nat) : Int))), some (vi (0))]) (dX4_takeAway.at 18 rfl) (by decide) rfl ?_
  exact hv

set_option maxHeartbeats 2000000 in
theorem c_X4_takeAway {G : GG} {j nw nx gn : Nat} {g : Nat → Sh} {c : Nat → Nat → Int} {post : Option AV → AM → Prop} {P : GD} {e : Nat} {w : Nat} {z : Nat} {o : Int} (he : e = 21 ∨ e = 35) (hE : EL c e P) (hV : GV P) (p1 : w < gN P) (p2 : z < w) (p3 : gL P z ≤ gL P w) (K : post none (S nw nx g, 78 + gn, (wr c 6 (tkS P (gA P w) w z ((gL P w - gL P z) / 2) (-o) (c 6) (z + 1))))) : SM G (j + 3) mX4_takeAway [vr (5), vr (e), vi (((w : Nat) : Int)), vi (((z : Nat) : Int)), vi (o)] (S nw nx g, 78 + gn, c) 0 0 post := by
  refine sm_of wX4_takeAway rfl (Nat.le_of_ble_eq_true rfl) ?_
  refine g_X4_takeAway_0 he hE hV ?_
  have h60 := GV_N hV
  have h1 := (hV.2.2.1 w p1)
  have h2 := lp_X4_takeAway_28 (G := G) (j := j) (nw := nw) (nx := nx) (gn := gn) (g := g) (post := post) (f := c 6) he hE hV p1 p2 h1.2.2.1 (by omega) K (z + 1) 0 (by omega)
  rw [tkS, wr_self] at h2
  refine ⟨?_, ⟨?_, ⟨?_, ⟨?_, ⟨?_, ?_⟩⟩⟩⟩⟩
  all_goals first | omega | exact h2

