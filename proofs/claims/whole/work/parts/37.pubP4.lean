def atG (T : PT) (x y : Nat) (z : Int) : Nat → Int → Int
  | 0, v => v
  | k + 1, v => atG T x y z k (v * z + T x y k)
def mxI (a b : Int) : Int := if a < b then b else a
def mx3 (f : Nat → Int) (p : Nat) : Nat → Nat → Int → Int
  | 0, _, a => a
  | k + 1, z, a => mx3 f p k (z + 1) (mxI a (f (p + z)))
def mx2 (f : Nat → Int) (v : Nat) : Nat → Nat → Int → Int
  | 0, _, a => a
  | k + 1, w, a => mx2 f v k (w + 1) (mx3 f ((v * 60 + w) * 8) 8 0 a)
def mx1 (f : Nat → Int) (n : Nat) : Nat → Nat → Int → Int
  | 0, _, a => a
  | k + 1, v, a => mx1 f n k (v + 1) (mx2 f v (n - v) v a)
theorem mxI_rng {a b : Int} (ha : 0 ≤ a ∧ a < 1000) (hb : 0 ≤ b ∧ b < 1000) : 0 ≤ mxI a b ∧ mxI a b < 1000 := by
  rw [mxI]; split <;> assumption
theorem mx3_rng {f : Nat → Int} {p : Nat} : ∀ k z a, (∀ i, i < z + k → 0 ≤ f (p + i) ∧ f (p + i) < 1000) → 0 ≤ a ∧ a < 1000 → 0 ≤ mx3 f p k z a ∧ mx3 f p k z a < 1000 := by
  intro k
  induction k with
  | zero => intro z a _ h; exact h
  | succ k ih => intro z a h ha; exact ih (z + 1) _ (fun i hi => h i (by omega)) (mxI_rng ha (h z (by omega)))
theorem mx2_rng {f : Nat → Int} {v n : Nat} (hb : ∀ w i, w < n → i < 8 → 0 ≤ f ((v * 60 + w) * 8 + i) ∧ f ((v * 60 + w) * 8 + i) < 1000) : ∀ k w a, w + k ≤ n → 0 ≤ a ∧ a < 1000 → 0 ≤ mx2 f v k w a ∧ mx2 f v k w a < 1000 := by
  intro k
  induction k with
  | zero => intro w a _ h; exact h
  | succ k ih => intro w a h ha; exact ih (w + 1) _ (by omega) (mx3_rng _ _ _ (fun i hi => hb w i (by omega) (by omega)) ha)
theorem mx3_cong {f f2 : Nat → Int} {p p2 : Nat} : ∀ k z a, (∀ i, i < z + k → f (p + i) = f2 (p2 + i)) → mx3 f p k z a = mx3 f2 p2 k z a := by
  intro k
  induction k with
  | zero => intro z a _; rfl
  | succ k ih => intro z a h; rw [mx3, mx3, h z (by omega)]; exact ih _ _ (fun i hi => h i (by omega))
set_option maxHeartbeats 2000000 in
set_option maxRecDepth 20000 in
theorem g_X8_at_41 {G : GG} {j nw nx gn : Nat} {g : Nat → Sh} {c : Nat → Nat → Int} {post : Option AV → AM → Prop} {x : Nat} {y : Nat} {z : Int} {v : Int} {k : Nat}  (hv : (k < 2147483648) ∧ (((((k : Nat) : Int) < 0) → post (some (vi (v))) (S nw nx g, 78 + gn, c)) ∧ ((¬ (((k : Nat) : Int) < 0)) → (x < 60) ∧ (y < 60) ∧ (k < 2147483648) ∧ (SW G (j + 5) mX8_at 41 [some (vr (0)), some (vi (((x : Nat) : Int))), some (vi (((y : Nat) : Int))), some (vi (z)), some (vi ((v * z) + (if k < 8 then c 6 ((x * 60 + y) * 8 + k) else 0))), some (vi (((k : Nat) : Int) + (-1)))] [] (S nw nx g, 78 + gn, c) B0 post)))) :
    SW G (j + 5) mX8_at 41 [some (vr (0)), some (vi (((x : Nat) : Int))), some (vi (((y : Nat) : Int))), some (vi (z)), some (vi (v)), some (vi (((k : Nat) : Int)))] [] (S nw nx g, 78 + gn, c) B0 post := by
  refine sw_iload (dX8_at.at 22 rfl) rfl ?_
  refine sw_if_lt (tgt := 70) (dX8_at.at 23 rfl) (by decide) (nrng hv.1) (fun q => ?_) (fun q => ?_)
  · replace hv := hv.2.1 q
    refine sw_iload (dX8_at.at 37 rfl) rfl ?_
    exact sw_iret (dX8_at.at 38 rfl) rfl (Nat.le_refl _) (Nat.le_refl _) hv
  · replace hv := hv.2.2 q
    refine sw_iload (dX8_at.at 24 rfl) rfl ?_
    refine sw_iload_n (dX8_at.at 25 rfl) rfl rfl ?_
    refine sw_imul (dX8_at.at 26 rfl) ?_
    refine sw_aload_n (dX8_at.at 27 rfl) rfl rfl ?_
    refine sw_getR (dX8_at.at 28 rfl) fp_X8_26 (S_lt 0 (by decide)) (S_0 nw nx g) rfl rfl ?_
    refine sw_iload_n (dX8_at.at 29 rfl) rfl rfl ?_
    refine sw_iload_n (dX8_at.at 30 rfl) rfl rfl ?_
    refine sw_iload (dX8_at.at 31 rfl) rfl ?_
    refine sw_callV (B' := B0) (As := [vi (((x : Nat) : Int)), vi (((y : Nat) : Int)), vi (((k : Nat) : Int))]) (mc := 0) (ms := 0) (dX8_at.at 32 rfl) lk_X8_208 (S_lt 5 (by decide)) (S_5 nw nx g) rfl rfl (Nat.le_of_ble_eq_true rfl) rfl (Nat.le_refl _) (Nat.le_refl _) ?_
    refine c_X4_number (v := x) (w := y) (k := k) (j := j + 4) hv.1 hv.2.1 hv.2.2.1 ?_
    replace hv := hv.2.2.2
    refine sw_iadd (dX8_at.at 33 rfl) ?_
    refine sw_istore (lo' := [some (vr (0)), some (vi (((x : Nat) : Int))), some (vi (((y : Nat) : Int))), some (vi (z)), some (vi ((v * z) + (if k < 8 then c 6 ((x * 60 + y) * 8 + k) else 0))), some (vi (((k : Nat) : Int)))]) (dX8_at.at 34 rfl) (by decide) rfl ?_
    refine sw_iinc (lo' := [some (vr (0)), some (vi (((x : Nat) : Int))), some (vi (((y : Nat) : Int))), some (vi (z)), some (vi ((v * z) + (if k < 8 then c 6 ((x * 60 + y) * 8 + k) else 0))), some (vi (((k : Nat) : Int) + (-1)))]) (dX8_at.at 35 rfl) rfl (by decide) rfl ?_
    refine sw_goto (tgt := 41) (dX8_at.at 36 rfl) (by decide) ?_
    exact hv

set_option maxHeartbeats 2000000 in
set_option maxRecDepth 20000 in
theorem g_X8_at_41e {G : GG} {j nw nx gn : Nat} {g : Nat → Sh} {c : Nat → Nat → Int} {post : Option AV → AM → Prop} {x : Nat} {y : Nat} {z : Int} {v : Int}  (hv : post (some (vi (v))) (S nw nx g, 78 + gn, c)) :
    SW G (j + 5) mX8_at 41 [some (vr (0)), some (vi (((x : Nat) : Int))), some (vi (((y : Nat) : Int))), some (vi (z)), some (vi (v)), some (vi ((-1)))] [] (S nw nx g, 78 + gn, c) B0 post := by
  refine sw_iload (dX8_at.at 22 rfl) rfl ?_
  refine sw_if_lt (tgt := 70) (dX8_at.at 23 rfl) (by decide) (by decide) (fun q => ?_) (fun q => ?_)
  · clear q
    refine sw_iload (dX8_at.at 37 rfl) rfl ?_
    exact sw_iret (dX8_at.at 38 rfl) rfl (Nat.le_refl _) (Nat.le_refl _) hv
  · exact absurd q (by decide)

set_option maxHeartbeats 2000000 in
theorem lp_X8_at_41 {G : GG} {j nw nx gn : Nat} {g : Nat → Sh} {c : Nat → Nat → Int} {post : Option AV → AM → Prop} {P : GD} {T : PT} {x y : Nat} {z : Int} (hx : x < gN P) (hy : y < gN P) (h60 : gN P ≤ 60) (hA : AT P T (gN P) (c 6)) : ∀ (k : Nat) (v : Int), k ≤ 8 → post (some (vi (atG T x y z k v))) (S nw nx g, 78 + gn, c) → SW G (j + 5) mX8_at 41 [some (vr (0)), some (vi (((x : Nat) : Int))), some (vi (((y : Nat) : Int))), some (vi (z)), some (vi (v)), some (vi ((k : Int) - 1))] [] (S nw nx g, 78 + gn, c) B0 post := by
  intro k
  induction k with
  | zero =>
    intro v _ K
    have e : (((0 : Nat) : Int) - 1) = (-1) := by omega
    rw [e]
    exact g_X8_at_41e K
  | succ k ih =>
    intro v hk K
    have e : (((k + 1 : Nat) : Int) - 1) = ((k : Nat) : Int) := by omega
    have e2 : ((k : Nat) : Int) + (-1) = (k : Int) - 1 := by omega
    rw [e]
    rw [atG] at K
    refine g_X8_at_41 ?_
    rw [e2, if_pos (show k < 8 by omega), hA x y k hx hy (by omega)]
    refine ⟨?_, ⟨fun q => ?_, fun q => ⟨?_, ?_, ?_, ?_⟩⟩⟩
    all_goals first | omega | (exfalso; omega) | exact ih _ (by omega) K

def q_at (P : GD) (T : PT) (x y z : Int) : Int := if ((0 ≤ x ∧ x < (gN P : Int)) ∧ 0 ≤ y ∧ y < (gN P : Int)) ∧ -3 ≤ z ∧ z ≤ 3 then atG T x.toNat y.toNat z 8 0 else (-1000000000)
set_option maxHeartbeats 2000000 in
set_option maxRecDepth 20000 in
theorem g_X8_at_0n {G : GG} {j nw nx gn : Nat} {g : Nat → Sh} {c : Nat → Nat → Int} {post : Option AV → AM → Prop} {x : Nat} {y : Nat} {z : Int} {P : GD} {T : PT} (hnw : nw = 21 ∨ nw = 35) (hE : EL c nw P) (hV : GV P) (hT : HT P T) (hR : PR P T c)  (hv : (-2147483648 ≤ ((x : Nat) : Int) ∧ ((x : Nat) : Int) < 2147483648) ∧ (-2147483648 ≤ ((y : Nat) : Int) ∧ ((y : Nat) : Int) < 2147483648) ∧ ((((decide ((0 ≤ ((x : Nat) : Int) ∧ ((x : Nat) : Int) < (gN P : Int)) ∧ 0 ≤ ((y : Nat) : Int) ∧ ((y : Nat) : Int) < (gN P : Int))) = false) → post (some (vi ((-1000000000)))) (S nw nx g, 78 + gn, c)) ∧ (((decide ((0 ≤ ((x : Nat) : Int) ∧ ((x : Nat) : Int) < (gN P : Int)) ∧ 0 ≤ ((y : Nat) : Int) ∧ ((y : Nat) : Int) < (gN P : Int))) = true) → (-2147483648 ≤ z ∧ z < 2147483648) ∧ (((z < (-3)) → post (some (vi ((-1000000000)))) (S nw nx g, 78 + gn, c)) ∧ ((¬ (z < (-3))) → (-2147483648 ≤ z ∧ z < 2147483648) ∧ (((z ≤ 3) → (PR P T c) ∧ (∀ c_1 : Nat → Nat → Int, ((∀ a, a ≠ 5 → a ≠ 6 → c_1 a = c a) ∧ c_1 5 1 = 1 ∧ AT P T (gN P) (c_1 6)) → SW G (j + 5) mX8_at 41 [some (vr (0)), some (vi (((x : Nat) : Int))), some (vi (((y : Nat) : Int))), some (vi (z)), some (vi (0)), some (vi (7))] [] (S nw nx g, 78 + gn, c_1) B0 post)) ∧ ((¬ (z ≤ 3)) → post (some (vi ((-1000000000)))) (S nw nx g, 78 + gn, c)))))))) :
    SW G (j + 5) mX8_at 0 [some (vr (0)), some (vi (((x : Nat) : Int))), some (vi (((y : Nat) : Int))), some (vi (z)), none, none] [] (S nw nx g, 78 + gn, c) B0 post := by
  refine sw_aload_n (dX8_at.at 0 rfl) rfl rfl ?_
  refine sw_iload_n (dX8_at.at 1 rfl) rfl rfl ?_
  refine sw_iload_n (dX8_at.at 2 rfl) rfl rfl ?_
  refine sw_callV (B' := B0) (As := [vi (((x : Nat) : Int)), vi (((y : Nat) : Int))]) (mc := 0) (ms := 0) (dX8_at.at 3 rfl) lk_X8_157 (S_lt 0 (by decide)) (S_0 nw nx g) rfl rfl (Nat.le_of_ble_eq_true rfl) rfl (Nat.le_refl _) (Nat.le_refl _) ?_
  refine c_X8_arePair (x := ((x : Nat) : Int)) (y := ((y : Nat) : Int)) (j := j + 3) hnw hE hV hv.1 hv.2.1 ?_
  replace hv := hv.2.2
  refine sw_if_eq (tgt := 20) (dX8_at.at 4 rfl) (by decide) (bz_rng _) (fun q => ?_) (fun q => ?_)
  · replace hv := hv.1 (bz_0 q)
    refine sw_ldc (z := (-1000000000)) (dX8_at.at 11 rfl) kc_X8_218 (by decide) ?_
    exact sw_iret (dX8_at.at 12 rfl) rfl (Nat.le_refl _) (Nat.le_refl _) hv
  · replace hv := hv.2 (bz_n0 q)
    refine sw_iload_n (dX8_at.at 5 rfl) rfl rfl ?_
    refine sw_bipush (dX8_at.at 6 rfl) (by decide) ?_
    refine sw_icmp_lt (tgt := 20) (dX8_at.at 7 rfl) (by decide) hv.1 (by decide) (fun q => ?_) (fun q => ?_)
    · replace hv := hv.2.1 q
      refine sw_ldc (z := (-1000000000)) (dX8_at.at 11 rfl) kc_X8_218 (by decide) ?_
      exact sw_iret (dX8_at.at 12 rfl) rfl (Nat.le_refl _) (Nat.le_refl _) hv
    · replace hv := hv.2.2 q
      refine sw_iload_n (dX8_at.at 8 rfl) rfl rfl ?_
      refine sw_iconst (dX8_at.at 9 rfl) ?_
      refine sw_icmp_le (tgt := 23) (dX8_at.at 10 rfl) (by decide) hv.1 (by decide) (fun q => ?_) (fun q => ?_)
      · replace hv := hv.2.1 q
        refine sw_aload_n (dX8_at.at 13 rfl) rfl rfl ?_
        refine sw_getR (dX8_at.at 14 rfl) fp_X8_26 (S_lt 0 (by decide)) (S_0 nw nx g) rfl rfl ?_
        refine sw_aload_n (dX8_at.at 15 rfl) rfl rfl ?_
        refine sw_getR (dX8_at.at 16 rfl) fp_X8_65 (S_lt 0 (by decide)) (S_0 nw nx g) rfl rfl ?_
        refine sw_callV (B' := B0) (As := [vr (nw)]) (mc := 0) (ms := 0) (dX8_at.at 17 rfl) lk_X8_204 (S_lt 5 (by decide)) (S_5 nw nx g) rfl rfl (Nat.le_of_ble_eq_true rfl) rfl (Nat.le_refl _) (Nat.le_refl _) ?_
        refine c_X4_prepare (e := nw) (j := j + 0) hnw hE hV hT hv.1 (fun c_1 h_1 => ?_)
        replace hv := hv.2 c_1 h_1
        refine sw_iconst (dX8_at.at 18 rfl) ?_
        refine sw_istore (lo' := [some (vr (0)), some (vi (((x : Nat) : Int))), some (vi (((y : Nat) : Int))), some (vi (z)), some (vi (0)), none]) (dX8_at.at 19 rfl) (by decide) rfl ?_
        refine sw_bipush (dX8_at.at 20 rfl) (by decide) ?_
        refine sw_istore (lo' := [some (vr (0)), some (vi (((x : Nat) : Int))), some (vi (((y : Nat) : Int))), some (vi (z)), some (vi (0)), some (vi (7))]) (dX8_at.at 21 rfl) (by decide) rfl ?_
        exact hv
      · replace hv := hv.2.2 q
        refine sw_ldc (z := (-1000000000)) (dX8_at.at 11 rfl) kc_X8_218 (by decide) ?_
        exact sw_iret (dX8_at.at 12 rfl) rfl (Nat.le_refl _) (Nat.le_refl _) hv

set_option maxHeartbeats 2000000 in
set_option maxRecDepth 20000 in
theorem g_X8_at_0 {G : GG} {j nw nx gn : Nat} {g : Nat → Sh} {c : Nat → Nat → Int} {post : Option AV → AM → Prop} {x : Int} {y : Int} {z : Int} {P : GD} {T : PT} (hnw : nw = 21 ∨ nw = 35) (hE : EL c nw P) (hV : GV P) (hT : HT P T) (hR : PR P T c)  (hv : (-2147483648 ≤ x ∧ x < 2147483648) ∧ (-2147483648 ≤ y ∧ y < 2147483648) ∧ ((((decide ((0 ≤ x ∧ x < (gN P : Int)) ∧ 0 ≤ y ∧ y < (gN P : Int))) = false) → post (some (vi ((-1000000000)))) (S nw nx g, 78 + gn, c)) ∧ (((decide ((0 ≤ x ∧ x < (gN P : Int)) ∧ 0 ≤ y ∧ y < (gN P : Int))) = true) → (-2147483648 ≤ z ∧ z < 2147483648) ∧ (((z < (-3)) → post (some (vi ((-1000000000)))) (S nw nx g, 78 + gn, c)) ∧ ((¬ (z < (-3))) → (-2147483648 ≤ z ∧ z < 2147483648) ∧ (((z ≤ 3) → (PR P T c) ∧ (∀ c_1 : Nat → Nat → Int, ((∀ a, a ≠ 5 → a ≠ 6 → c_1 a = c a) ∧ c_1 5 1 = 1 ∧ AT P T (gN P) (c_1 6)) → SW G (j + 5) mX8_at 41 [some (vr (0)), some (vi (x)), some (vi (y)), some (vi (z)), some (vi (0)), some (vi (7))] [] (S nw nx g, 78 + gn, c_1) B0 post)) ∧ ((¬ (z ≤ 3)) → post (some (vi ((-1000000000)))) (S nw nx g, 78 + gn, c)))))))) :
    SW G (j + 5) mX8_at 0 [some (vr (0)), some (vi (x)), some (vi (y)), some (vi (z)), none, none] [] (S nw nx g, 78 + gn, c) B0 post := by
  refine sw_aload_n (dX8_at.at 0 rfl) rfl rfl ?_
  refine sw_iload_n (dX8_at.at 1 rfl) rfl rfl ?_
  refine sw_iload_n (dX8_at.at 2 rfl) rfl rfl ?_
  refine sw_callV (B' := B0) (As := [vi (x), vi (y)]) (mc := 0) (ms := 0) (dX8_at.at 3 rfl) lk_X8_157 (S_lt 0 (by decide)) (S_0 nw nx g) rfl rfl (Nat.le_of_ble_eq_true rfl) rfl (Nat.le_refl _) (Nat.le_refl _) ?_
  refine c_X8_arePair (x := x) (y := y) (j := j + 3) hnw hE hV hv.1 hv.2.1 ?_
  replace hv := hv.2.2
  refine sw_if_eq (tgt := 20) (dX8_at.at 4 rfl) (by decide) (bz_rng _) (fun q => ?_) (fun q => ?_)
  · replace hv := hv.1 (bz_0 q)
    refine sw_ldc (z := (-1000000000)) (dX8_at.at 11 rfl) kc_X8_218 (by decide) ?_
    exact sw_iret (dX8_at.at 12 rfl) rfl (Nat.le_refl _) (Nat.le_refl _) hv
  · replace hv := hv.2 (bz_n0 q)
    refine sw_iload_n (dX8_at.at 5 rfl) rfl rfl ?_
    refine sw_bipush (dX8_at.at 6 rfl) (by decide) ?_
    refine sw_icmp_lt (tgt := 20) (dX8_at.at 7 rfl) (by decide) hv.1 (by decide) (fun q => ?_) (fun q => ?_)
    · replace hv := hv.2.1 q
      refine sw_ldc (z := (-1000000000)) (dX8_at.at 11 rfl) kc_X8_218 (by decide) ?_
      exact sw_iret (dX8_at.at 12 rfl) rfl (Nat.le_refl _) (Nat.le_refl _) hv
    · replace hv := hv.2.2 q
      refine sw_iload_n (dX8_at.at 8 rfl) rfl rfl ?_
      refine sw_iconst (dX8_at.at 9 rfl) ?_
      refine sw_icmp_le (tgt := 23) (dX8_at.at 10 rfl) (by decide) hv.1 (by decide) (fun q => ?_) (fun q => ?_)
      · replace hv := hv.2.1 q
        refine sw_aload_n (dX8_at.at 13 rfl) rfl rfl ?_
        refine sw_getR (dX8_at.at 14 rfl) fp_X8_26 (S_lt 0 (by decide)) (S_0 nw nx g) rfl rfl ?_
        refine sw_aload_n (dX8_at.at 15 rfl) rfl rfl ?_
        refine sw_getR (dX8_at.at 16 rfl) fp_X8_65 (S_lt 0 (by decide)) (S_0 nw nx g) rfl rfl ?_
        refine sw_callV (B' := B0) (As := [vr (nw)]) (mc := 0) (ms := 0) (dX8_at.at 17 rfl) lk_X8_204 (S_lt 5 (by decide)) (S_5 nw nx g) rfl rfl (Nat.le_of_ble_eq_true rfl) rfl (Nat.le_refl _) (Nat.le_refl _) ?_
        refine c_X4_prepare (e := nw) (j := j + 0) hnw hE hV hT hv.1 (fun c_1 h_1 => ?_)
        replace hv := hv.2 c_1 h_1
        refine sw_iconst (dX8_at.at 18 rfl) ?_
        refine sw_istore (lo' := [some (vr (0)), some (vi (x)), some (vi (y)), some (vi (z)), some (vi (0)), none]) (dX8_at.at 19 rfl) (by decide) rfl ?_
        refine sw_bipush (dX8_at.at 20 rfl) (by decide) ?_
        refine sw_istore (lo' := [some (vr (0)), some (vi (x)), some (vi (y)), some (vi (z)), some (vi (0)), some (vi (7))]) (dX8_at.at 21 rfl) (by decide) rfl ?_
        exact hv
      · replace hv := hv.2.2 q
        refine sw_ldc (z := (-1000000000)) (dX8_at.at 11 rfl) kc_X8_218 (by decide) ?_
        exact sw_iret (dX8_at.at 12 rfl) rfl (Nat.le_refl _) (Nat.le_refl _) hv

set_option maxHeartbeats 4000000 in
theorem c_X8_at {G : GG} {j nw nx gn : Nat} {g : Nat → Sh} {c : Nat → Nat → Int} {post : Option AV → AM → Prop} {P : GD} {T : PT} {x y z : Int} (hnw : nw = 21 ∨ nw = 35) (hE : EL c nw P) (hV : GV P) (hT : HT P T) (hR : PR P T c) (p1 : -2147483648 ≤ x ∧ x < 2147483648) (p2 : -2147483648 ≤ y ∧ y < 2147483648) (p3 : -2147483648 ≤ z ∧ z < 2147483648) (K : ∀ c2 : Nat → Nat → Int, ((∀ a, a ≠ 5 → a ≠ 6 → c2 a = c a) ∧ PR P T c2) → post (some (vi (q_at P T x y z))) (S nw nx g, 78 + gn, c2)) : SM G (j + 6) mX8_at [vr (0), vi (x), vi (y), vi (z)] (S nw nx g, 78 + gn, c) 0 0 post := by
  refine sm_of wX8_at rfl (Nat.le_of_ble_eq_true rfl) ?_
  have hN60 := GV_N hV
  have hR5 := GV_R hV
  by_cases hv : ((0 ≤ x ∧ x < (gN P : Int)) ∧ 0 ≤ y ∧ y < (gN P : Int)) ∧ -3 ≤ z ∧ z ≤ 3
  · obtain ⟨x, rfl⟩ : ∃ n : Nat, x = (n : Int) := ⟨x.toNat, by omega⟩
    obtain ⟨y, rfl⟩ : ∃ n : Nat, y = (n : Int) := ⟨y.toNat, by omega⟩
    have e : q_at P T ((x : Nat) : Int) ((y : Nat) : Int) z = atG T x y z 8 0 := by
      rw [q_at, if_pos hv]
      simp only [Int.toNat_natCast]
    rw [e] at K
    refine g_X8_at_0n hnw hE hV hT hR ?_
    refine ⟨?_, ?_, ⟨fun q => ?_, fun q => ⟨?_, ⟨fun q => ?_, fun q => ⟨?_, ⟨fun q => ⟨?_, fun c_1 h_1 => ?_⟩, fun q => ?_⟩⟩⟩⟩⟩⟩
    all_goals first | omega | assumption | (exfalso; simp only [decide_eq_true_eq, decide_eq_false_iff_not] at *; omega) | (have K2 := K c_1 ⟨h_1.1, Or.inr h_1.2⟩; exact lp_X8_at_41 (P := P) (T := T) (by omega) (by omega) hN60 h_1.2.2 8 0 (by omega) K2)
  · have e : q_at P T x y z = (-1000000000) := by rw [q_at, if_neg hv]
    rw [e] at K
    refine g_X8_at_0 hnw hE hV hT hR ?_
    have K := K c ⟨fun _ _ _ => rfl, hR⟩
    refine ⟨?_, ?_, ⟨fun q => ?_, fun q => ⟨?_, ⟨fun q => ?_, fun q => ⟨?_, ⟨fun q => ⟨?_, fun c_1 h_1 => ?_⟩, fun q => ?_⟩⟩⟩⟩⟩⟩
    all_goals first | exact K | omega | assumption | (exfalso; simp only [decide_eq_true_eq, decide_eq_false_iff_not] at *; omega)

set_option maxHeartbeats 2000000 in
set_option maxRecDepth 20000 in
theorem g_X4_highestNumber_21 {G : GG} {j nw nx gn : Nat} {g : Nat → Sh} {c : Nat → Nat → Int} {post : Option AV → AM → Prop} {q0 : Nat} {v : Nat} {w : Nat} {z : Nat} {a : Int}  (hv : (z < 2147483648) ∧ (((8 ≤ z) → SW G (j + 1) mX4_highestNumber 12 [some (vr (5)), some (vi (((q0 : Nat) : Int))), some (vi (a)), some (vi (((v : Nat) : Int))), some (vi (((w + 1 : Nat) : Int))), none] [] (S nw nx g, 78 + gn, c) B0 post) ∧ ((¬ (8 ≤ z)) → (v < 60) ∧ (w < 60) ∧ (z < 2147483648) ∧ ((-2147483648 ≤ a ∧ a < 2147483648) ∧ (-2147483648 ≤ (if z < 8 then c 6 ((v * 60 + w) * 8 + z) else 0) ∧ (if z < 8 then c 6 ((v * 60 + w) * 8 + z) else 0) < 2147483648) ∧ (SW G (j + 1) mX4_highestNumber 21 [some (vr (5)), some (vi (((q0 : Nat) : Int))), some (vi (if a < (if z < 8 then c 6 ((v * 60 + w) * 8 + z) else 0) then (if z < 8 then c 6 ((v * 60 + w) * 8 + z) else 0) else a)), some (vi (((v : Nat) : Int))), some (vi (((w : Nat) : Int))), some (vi (((z + 1 : Nat) : Int)))] [] (S nw nx g, 78 + gn, c) B0 post))))) :
    SW G (j + 1) mX4_highestNumber 21 [some (vr (5)), some (vi (((q0 : Nat) : Int))), some (vi (a)), some (vi (((v : Nat) : Int))), some (vi (((w : Nat) : Int))), some (vi (((z : Nat) : Int)))] [] (S nw nx g, 78 + gn, c) B0 post := by
  refine sw_iload (dX4_highestNumber.at 14 rfl) rfl ?_
  refine sw_bipush (dX4_highestNumber.at 15 rfl) (by decide) ?_
  refine sw_icmpN_ge z 8 (tgt := 48) (dX4_highestNumber.at 16 rfl) (by decide) hv.1 (by decide) (fun q => ?_) (fun q => ?_)
  · replace hv := hv.2.1 q
    refine sw_iinc (lo' := [some (vr (5)), some (vi (((q0 : Nat) : Int))), some (vi (a)), some (vi (((v : Nat) : Int))), some (vi (((w + 1 : Nat) : Int))), some (vi (((z : Nat) : Int)))]) (dX4_highestNumber.at 27 rfl) rfl (by decide) rfl ?_
    refine sw_goto (tgt := 12) (dX4_highestNumber.at 28 rfl) (by decide) ?_
    exact sw_mask (bs := [true, true, true, true, true, false]) hv
  · replace hv := hv.2.2 q
    refine sw_iload_n (dX4_highestNumber.at 17 rfl) rfl rfl ?_
    refine sw_aload_n (dX4_highestNumber.at 18 rfl) rfl rfl ?_
    refine sw_iload_n (dX4_highestNumber.at 19 rfl) rfl rfl ?_
    refine sw_iload (dX4_highestNumber.at 20 rfl) rfl ?_
    refine sw_iload (dX4_highestNumber.at 21 rfl) rfl ?_
    refine sw_callV (B' := B0) (As := [vi (((v : Nat) : Int)), vi (((w : Nat) : Int)), vi (((z : Nat) : Int))]) (mc := 0) (ms := 0) (dX4_highestNumber.at 22 rfl) lk_X4_33 (S_lt 5 (by decide)) (S_5 nw nx g) rfl rfl (Nat.le_of_ble_eq_true rfl) rfl (Nat.le_refl _) (Nat.le_refl _) ?_
    refine c_X4_number (v := v) (w := w) (k := z) (j := j + 0) hv.1 hv.2.1 hv.2.2.1 ?_
    replace hv := hv.2.2.2
    refine sw_imax (dX4_highestNumber.at 23 rfl) lk_X4_44 (Nat.le_of_ble_eq_true rfl) (Nat.le_refl _) (Nat.le_refl _) hv.1 hv.2.1 ?_
    replace hv := hv.2.2
    refine sw_istore_n (lo' := [some (vr (5)), some (vi (((q0 : Nat) : Int))), some (vi (if a < (if z < 8 then c 6 ((v * 60 + w) * 8 + z) else 0) then (if z < 8 then c 6 ((v * 60 + w) * 8 + z) else 0) else a)), some (vi (((v : Nat) : Int))), some (vi (((w : Nat) : Int))), some (vi (((z : Nat) : Int)))]) (dX4_highestNumber.at 24 rfl) rfl (by decide) rfl ?_
    refine sw_iinc (lo' := [some (vr (5)), some (vi (((q0 : Nat) : Int))), some (vi (if a < (if z < 8 then c 6 ((v * 60 + w) * 8 + z) else 0) then (if z < 8 then c 6 ((v * 60 + w) * 8 + z) else 0) else a)), some (vi (((v : Nat) : Int))), some (vi (((w : Nat) : Int))), some (vi (((z + 1 : Nat) : Int)))]) (dX4_highestNumber.at 25 rfl) rfl (by decide) rfl ?_
    refine sw_goto (tgt := 21) (dX4_highestNumber.at 26 rfl) (by decide) ?_
    exact hv

set_option maxHeartbeats 4000000 in
theorem lp_X4_highestNumber_21 {G : GG} {j nw nx gn : Nat} {g : Nat → Sh} {c : Nat → Nat → Int} {post : Option AV → AM → Prop} {v : Nat} {w : Nat} {q0 : Nat} (hq : q0 ≤ 60) (hb : ∀ v w i, v < q0 → w < q0 → i < 8 → 0 ≤ c 6 ((v * 60 + w) * 8 + i) ∧ c 6 ((v * 60 + w) * 8 + i) < 1000) (hv : v < q0) (hw : w < q0) : ∀ (k : Nat) (z : Nat) (a : Int), z + k = 8 → (0 ≤ a ∧ a < 1000) → (SW G (j + 1) mX4_highestNumber 12 [some (vr (5)), some (vi (((q0 : Nat) : Int))), some (vi (mx3 (c 6) ((v * 60 + w) * 8) k z a)), some (vi (((v : Nat) : Int))), some (vi (((w + 1 : Nat) : Int))), none] [] (S nw nx g, 78 + gn, c) B0 post) → SW G (j + 1) mX4_highestNumber 21 [some (vr (5)), some (vi (((q0 : Nat) : Int))), some (vi (a)), some (vi (((v : Nat) : Int))), some (vi (((w : Nat) : Int))), some (vi (((z : Nat) : Int)))] [] (S nw nx g, 78 + gn, c) B0 post := by
  intro k
  induction k with
  | zero =>
    intro z a hrel ha K
    simp only [mx3] at K
    refine g_X4_highestNumber_21   ?_
    refine ⟨?_, ⟨fun q => ?_, fun q => ⟨?_, ?_, ?_, ⟨?_, ?_, ?_⟩⟩⟩⟩
    all_goals first | omega | exact K | (exfalso; omega) | (rw [if_pos r9]; exact ih _ _ (by omega) m9 K) | (simp only [*, if_true, if_false, ite_true, ite_false, Bool.false_eq_true, and_true, true_and, and_false, false_and, and_self, or_true, true_or, or_false, false_or, Bool.and_true, Bool.and_false, Bool.true_and, Bool.false_and, decide_true, decide_false, eq_self, not_true_eq_false, not_false_eq_true, ne_eq, reduceCtorEq] at K; exact K)
  | succ k ih =>
    intro z a hrel ha K
    have b9 := hb v w z hv hw (by omega)
    have m9 := mxI_rng ha b9
    rw [mx3] at K
    refine g_X4_highestNumber_21 ?_
    rw [if_pos (show z < 8 by omega)]
    refine ⟨?_, ⟨fun q => ?_, fun q => ⟨?_, ?_, ?_, ⟨?_, ?_, ?_⟩⟩⟩⟩
    all_goals first | omega | exact ih _ _ (by omega) m9 K | (exfalso; omega)

set_option maxHeartbeats 2000000 in
set_option maxRecDepth 20000 in
theorem g_X4_highestNumber_12 {G : GG} {j nw nx gn : Nat} {g : Nat → Sh} {c : Nat → Nat → Int} {post : Option AV → AM → Prop} {q0 : Nat} {v : Nat} {w : Nat} {a : Int}  (hv : (w < 2147483648) ∧ (q0 < 2147483648) ∧ (((q0 ≤ w) → SW G (j + 1) mX4_highestNumber 4 [some (vr (5)), some (vi (((q0 : Nat) : Int))), some (vi (a)), some (vi (((v + 1 : Nat) : Int))), none, none] [] (S nw nx g, 78 + gn, c) B0 post) ∧ ((¬ (q0 ≤ w)) → SW G (j + 1) mX4_highestNumber 21 [some (vr (5)), some (vi (((q0 : Nat) : Int))), some (vi (a)), some (vi (((v : Nat) : Int))), some (vi (((w : Nat) : Int))), some (vi (0))] [] (S nw nx g, 78 + gn, c) B0 post))) :
    SW G (j + 1) mX4_highestNumber 12 [some (vr (5)), some (vi (((q0 : Nat) : Int))), some (vi (a)), some (vi (((v : Nat) : Int))), some (vi (((w : Nat) : Int))), none] [] (S nw nx g, 78 + gn, c) B0 post := by
  refine sw_iload (dX4_highestNumber.at 9 rfl) rfl ?_
  refine sw_iload_n (dX4_highestNumber.at 10 rfl) rfl rfl ?_
  refine sw_icmpN_ge w q0 (tgt := 54) (dX4_highestNumber.at 11 rfl) (by decide) hv.1 hv.2.1 (fun q => ?_) (fun q => ?_)
  · replace hv := hv.2.2.1 q
    refine sw_iinc (lo' := [some (vr (5)), some (vi (((q0 : Nat) : Int))), some (vi (a)), some (vi (((v + 1 : Nat) : Int))), some (vi (((w : Nat) : Int))), none]) (dX4_highestNumber.at 29 rfl) rfl (by decide) rfl ?_
    refine sw_goto (tgt := 4) (dX4_highestNumber.at 30 rfl) (by decide) ?_
    exact sw_mask (bs := [true, true, true, true, false, false]) hv
  · replace hv := hv.2.2.2 q
    refine sw_iconst (dX4_highestNumber.at 12 rfl) ?_
    refine sw_istore (lo' := [some (vr (5)), some (vi (((q0 : Nat) : Int))), some (vi (a)), some (vi (((v : Nat) : Int))), some (vi (((w : Nat) : Int))), some (vi (0))]) (dX4_highestNumber.at 13 rfl) (by decide) rfl ?_
    exact hv

set_option maxHeartbeats 4000000 in
theorem lp_X4_highestNumber_12 {G : GG} {j nw nx gn : Nat} {g : Nat → Sh} {c : Nat → Nat → Int} {post : Option AV → AM → Prop} {v : Nat} {q0 : Nat} (hq : q0 ≤ 60) (hb : ∀ v w i, v < q0 → w < q0 → i < 8 → 0 ≤ c 6 ((v * 60 + w) * 8 + i) ∧ c 6 ((v * 60 + w) * 8 + i) < 1000) (hv : v < q0) : ∀ (k : Nat) (w : Nat) (a : Int), w + k = q0 → (0 ≤ a ∧ a < 1000) → (SW G (j + 1) mX4_highestNumber 4 [some (vr (5)), some (vi (((q0 : Nat) : Int))), some (vi (mx2 (c 6) v k w a)), some (vi (((v + 1 : Nat) : Int))), none, none] [] (S nw nx g, 78 + gn, c) B0 post) → SW G (j + 1) mX4_highestNumber 12 [some (vr (5)), some (vi (((q0 : Nat) : Int))), some (vi (a)), some (vi (((v : Nat) : Int))), some (vi (((w : Nat) : Int))), none] [] (S nw nx g, 78 + gn, c) B0 post := by
  intro k
  induction k with
  | zero =>
    intro w a hrel ha K
    simp only [mx2] at K
    refine g_X4_highestNumber_12   ?_
    refine ⟨?_, ?_, ⟨fun q => ?_, fun q => ?_⟩⟩
    all_goals first | omega | exact K | (exfalso; omega) | (simp only [*, if_true, if_false, ite_true, ite_false, Bool.false_eq_true, and_true, true_and, and_false, false_and, and_self, or_true, true_or, or_false, false_or, Bool.and_true, Bool.and_false, Bool.true_and, Bool.false_and, decide_true, decide_false, eq_self, not_true_eq_false, not_false_eq_true, ne_eq, reduceCtorEq] at K; exact K)
  | succ k ih =>
    intro w a hrel ha K
    rw [mx2] at K
    have m9 := mx3_rng (f := c 6) (p := (v * 60 + w) * 8) 8 0 a (fun i hi => hb v w i hv (by omega) (by omega)) ha
    refine g_X4_highestNumber_12 ?_
    refine ⟨?_, ?_, ⟨fun q => ?_, fun q => ?_⟩⟩
    all_goals first | omega | (exfalso; omega) | exact lp_X4_highestNumber_21 hq hb hv (by omega) 8 0 a (by omega) ha (ih _ _ (by omega) m9 K)

set_option maxHeartbeats 2000000 in
set_option maxRecDepth 20000 in
theorem g_X4_highestNumber_4 {G : GG} {j nw nx gn : Nat} {g : Nat → Sh} {c : Nat → Nat → Int} {post : Option AV → AM → Prop} {q0 : Nat} {v : Nat} {a : Int}  (hv : (v < 2147483648) ∧ (q0 < 2147483648) ∧ (((q0 ≤ v) → post (some (vi (a))) (S nw nx g, 78 + gn, c)) ∧ ((¬ (q0 ≤ v)) → SW G (j + 1) mX4_highestNumber 12 [some (vr (5)), some (vi (((q0 : Nat) : Int))), some (vi (a)), some (vi (((v : Nat) : Int))), some (vi (((v : Nat) : Int))), none] [] (S nw nx g, 78 + gn, c) B0 post))) :
    SW G (j + 1) mX4_highestNumber 4 [some (vr (5)), some (vi (((q0 : Nat) : Int))), some (vi (a)), some (vi (((v : Nat) : Int))), none, none] [] (S nw nx g, 78 + gn, c) B0 post := by
  refine sw_iload_n (dX4_highestNumber.at 4 rfl) rfl rfl ?_
  refine sw_iload_n (dX4_highestNumber.at 5 rfl) rfl rfl ?_
  refine sw_icmpN_ge v q0 (tgt := 60) (dX4_highestNumber.at 6 rfl) (by decide) hv.1 hv.2.1 (fun q => ?_) (fun q => ?_)
  · replace hv := hv.2.2.1 q
    refine sw_iload_n (dX4_highestNumber.at 31 rfl) rfl rfl ?_
    exact sw_iret (dX4_highestNumber.at 32 rfl) rfl (Nat.le_refl _) (Nat.le_refl _) hv
  · replace hv := hv.2.2.2 q
    refine sw_iload_n (dX4_highestNumber.at 7 rfl) rfl rfl ?_
    refine sw_istore (lo' := [some (vr (5)), some (vi (((q0 : Nat) : Int))), some (vi (a)), some (vi (((v : Nat) : Int))), some (vi (((v : Nat) : Int))), none]) (dX4_highestNumber.at 8 rfl) (by decide) rfl ?_
    exact hv

set_option maxHeartbeats 4000000 in
theorem lp_X4_highestNumber_4 {G : GG} {j nw nx gn : Nat} {g : Nat → Sh} {c : Nat → Nat → Int} {post : Option AV → AM → Prop} {q0 : Nat} (hq : q0 ≤ 60) (hb : ∀ v w i, v < q0 → w < q0 → i < 8 → 0 ≤ c 6 ((v * 60 + w) * 8 + i) ∧ c 6 ((v * 60 + w) * 8 + i) < 1000) : ∀ (k : Nat) (v : Nat) (a : Int), v + k = q0 → (0 ≤ a ∧ a < 1000) → (post (some (vi (mx1 (c 6) q0 k v a))) (S nw nx g, 78 + gn, c)) → SW G (j + 1) mX4_highestNumber 4 [some (vr (5)), some (vi (((q0 : Nat) : Int))), some (vi (a)), some (vi (((v : Nat) : Int))), none, none] [] (S nw nx g, 78 + gn, c) B0 post := by
  intro k
  induction k with
  | zero =>
    intro v a hrel ha K
    simp only [mx1] at K
    refine g_X4_highestNumber_4   ?_
    refine ⟨?_, ?_, ⟨fun q => ?_, fun q => ?_⟩⟩
    all_goals first | omega | exact K | (exfalso; omega) | (simp only [*, if_true, if_false, ite_true, ite_false, Bool.false_eq_true, and_true, true_and, and_false, false_and, and_self, or_true, true_or, or_false, false_or, Bool.and_true, Bool.and_false, Bool.true_and, Bool.false_and, decide_true, decide_false, eq_self, not_true_eq_false, not_false_eq_true, ne_eq, reduceCtorEq] at K; exact K)
  | succ k ih =>
    intro v a hrel ha K
    rw [mx1] at K
    have m9 := mx2_rng (f := c 6) (v := v) (n := q0) (fun w i h1 h2 => hb v w i (by omega) h1 h2) (q0 - v) v a (by omega) ha
    refine g_X4_highestNumber_4 ?_
    refine ⟨?_, ?_, ⟨fun q => ?_, fun q => ?_⟩⟩
    all_goals first | omega | (exfalso; omega) | exact lp_X4_highestNumber_12 hq hb (by omega) (q0 - v) v a (by omega) ha (ih _ _ (by omega) m9 K)

set_option maxHeartbeats 2000000 in
set_option maxRecDepth 20000 in
theorem g_X4_highestNumber_0 {G : GG} {j nw nx gn : Nat} {g : Nat → Sh} {c : Nat → Nat → Int} {post : Option AV → AM → Prop} {q0 : Nat}  (hv : SW G (j + 1) mX4_highestNumber 4 [some (vr (5)), some (vi (((q0 : Nat) : Int))), some (vi (0)), some (vi (0)), none, none] [] (S nw nx g, 78 + gn, c) B0 post) :
    SW G (j + 1) mX4_highestNumber 0 [some (vr (5)), some (vi (((q0 : Nat) : Int))), none, none, none, none] [] (S nw nx g, 78 + gn, c) B0 post := by
  refine sw_iconst (dX4_highestNumber.at 0 rfl) ?_
  refine sw_istore_n (lo' := [some (vr (5)), some (vi (((q0 : Nat) : Int))), some (vi (0)), none, none, none]) (dX4_highestNumber.at 1 rfl) rfl (by decide) rfl ?_
  refine sw_iconst (dX4_highestNumber.at 2 rfl) ?_
  refine sw_istore_n (lo' := [some (vr (5)), some (vi (((q0 : Nat) : Int))), some (vi (0)), some (vi (0)), none, none]) (dX4_highestNumber.at 3 rfl) rfl (by decide) rfl ?_
  exact hv

set_option maxHeartbeats 2000000 in
theorem c_X4_highestNumber {G : GG} {j nw nx gn : Nat} {g : Nat → Sh} {c : Nat → Nat → Int} {post : Option AV → AM → Prop} {q0 : Nat} (p1 : q0 ≤ 60) (p2 : ∀ v w i, v < q0 → w < q0 → i < 8 → 0 ≤ c 6 ((v * 60 + w) * 8 + i) ∧ c 6 ((v * 60 + w) * 8 + i) < 1000) (K : post (some (vi (mx1 (c 6) q0 q0 0 0))) (S nw nx g, 78 + gn, c)) : SM G (j + 2) mX4_highestNumber [vr (5), vi (((q0 : Nat) : Int))] (S nw nx g, 78 + gn, c) 0 0 post := by
  refine sm_of wX4_highestNumber rfl (Nat.le_of_ble_eq_true rfl) ?_
  refine g_X4_highestNumber_0  ?_
  exact lp_X4_highestNumber_4 p1 p2 q0 0 0 (by omega) (by omega) K

def fT (T : PT) : Nat → Int := fun i => T (i / 480) (i / 8 % 60) (i % 8)
theorem mx2_cong {f f2 : Nat → Int} {v n : Nat} (h : ∀ w i, w < n → i < 8 → f ((v * 60 + w) * 8 + i) = f2 ((v * 60 + w) * 8 + i)) : ∀ k w a, w + k ≤ n → mx2 f v k w a = mx2 f2 v k w a := by
  intro k
  induction k with
  | zero => intro w a _; rfl
  | succ k ih => intro w a hw; rw [mx2, mx2, mx3_cong 8 0 a (fun i hi => h w i (by omega) (by omega))]; exact ih _ _ (by omega)
theorem mx1_cong {f f2 : Nat → Int} {n : Nat} (h : ∀ v w i, v < n → w < n → i < 8 → f ((v * 60 + w) * 8 + i) = f2 ((v * 60 + w) * 8 + i)) : ∀ k v a, v + k ≤ n → mx1 f n k v a = mx1 f2 n k v a := by
  intro k
  induction k with
  | zero => intro v a _; rfl
  | succ k ih => intro v a hv; rw [mx1, mx1, mx2_cong (n := n) (fun w i h1 h2 => h v w i (by omega) h1 h2) _ _ _ (by omega)]; exact ih _ _ (by omega)
theorem AT_fT {P : GD} {T : PT} {f : Nat → Int} (hN : gN P ≤ 60) (h : AT P T (gN P) f) : ∀ v w i, v < gN P → w < gN P → i < 8 → f ((v * 60 + w) * 8 + i) = fT T ((v * 60 + w) * 8 + i) := by
  intro v w i hv hw hi
  rw [h v w i hv hw hi, fT, show ((v * 60 + w) * 8 + i) / 480 = v by omega, show ((v * 60 + w) * 8 + i) / 8 % 60 = w by omega, show ((v * 60 + w) * 8 + i) % 8 = i by omega]
theorem AT_bd {P : GD} {T : PT} {f : Nat → Int} (hT : HT P T) (h : AT P T (gN P) f) : ∀ v w i, v < gN P → w < gN P → i < 8 → 0 ≤ f ((v * 60 + w) * 8 + i) ∧ f ((v * 60 + w) * 8 + i) < 1000 := by
  intro v w i hv hw hi
  rw [h v w i hv hw hi]
  exact hT.2.2 v w i hv hw hi
def q_tallest (P : GD) (T : PT) : Int := if gN P = 0 then -2 else mx1 (fT T) (gN P) (gN P) 0 0
set_option maxHeartbeats 2000000 in
set_option maxRecDepth 20000 in
theorem g_X8_tallest_0 {G : GG} {j nw nx gn : Nat} {g : Nat → Sh} {c : Nat → Nat → Int} {post : Option AV → AM → Prop} {P : GD} {T : PT} (hnw : nw = 21 ∨ nw = 35) (hE : EL c nw P) (hV : GV P) (hT : HT P T) (hR : PR P T c)  (hv : (gN P < 2147483648) ∧ (((gN P ≠ 0) → (PR P T c) ∧ (∀ c_1 : Nat → Nat → Int, ((∀ a, a ≠ 5 → a ≠ 6 → c_1 a = c a) ∧ c_1 5 1 = 1 ∧ AT P T (gN P) (c_1 6)) → ((gN P) ≤ 60) ∧ (∀ v w i, v < (gN P) → w < (gN P) → i < 8 → 0 ≤ c_1 6 ((v * 60 + w) * 8 + i) ∧ c_1 6 ((v * 60 + w) * 8 + i) < 1000) ∧ (post (some (vi (mx1 (c_1 6) (gN P) (gN P) 0 0))) (S nw nx g, 78 + gn, c_1)))) ∧ ((gN P = 0) → post (some (vi ((-2)))) (S nw nx g, 78 + gn, c)))) :
    SW G (j + 5) mX8_tallest 0 [some (vr (0))] [] (S nw nx g, 78 + gn, c) B0 post := by
  refine sw_aload_n (dX8_tallest.at 0 rfl) rfl rfl ?_
  refine sw_getR (dX8_tallest.at 1 rfl) fp_X8_65 (S_lt 0 (by decide)) (S_0 nw nx g) rfl rfl ?_
  refine sw_getIE (w := ((gN P : Nat) : Int)) (dX8_tallest.at 2 rfl) fp_X8_103 (S_e_lt hnw) (S_e hnw) rfl (EL_N hE) ?_
  refine sw_ifN_ne (gN P) (tgt := 13) (dX8_tallest.at 3 rfl) (by decide) hv.1 (fun q => ?_) (fun q => ?_)
  · replace hv := hv.2.1 q
    refine sw_aload_n (dX8_tallest.at 6 rfl) rfl rfl ?_
    refine sw_getR (dX8_tallest.at 7 rfl) fp_X8_26 (S_lt 0 (by decide)) (S_0 nw nx g) rfl rfl ?_
    refine sw_aload_n (dX8_tallest.at 8 rfl) rfl rfl ?_
    refine sw_getR (dX8_tallest.at 9 rfl) fp_X8_65 (S_lt 0 (by decide)) (S_0 nw nx g) rfl rfl ?_
    refine sw_callV (B' := B0) (As := [vr (nw)]) (mc := 0) (ms := 0) (dX8_tallest.at 10 rfl) lk_X8_204 (S_lt 5 (by decide)) (S_5 nw nx g) rfl rfl (Nat.le_of_ble_eq_true rfl) rfl (Nat.le_refl _) (Nat.le_refl _) ?_
    refine c_X4_prepare (e := nw) (j := j + 0) hnw hE hV hT hv.1 (fun c_1 h_1 => ?_)
    replace hv := hv.2 c_1 h_1
    refine sw_aload_n (dX8_tallest.at 11 rfl) rfl rfl ?_
    refine sw_getR (dX8_tallest.at 12 rfl) fp_X8_26 (S_lt 0 (by decide)) (S_0 nw nx g) rfl rfl ?_
    refine sw_aload_n (dX8_tallest.at 13 rfl) rfl rfl ?_
    refine sw_getR (dX8_tallest.at 14 rfl) fp_X8_65 (S_lt 0 (by decide)) (S_0 nw nx g) rfl rfl ?_
    refine sw_getIE (w := ((gN P : Nat) : Int)) (dX8_tallest.at 15 rfl) fp_X8_103 (S_e_lt hnw) (S_e hnw) rfl (EL_N (EL_same hE (fun q hq => h_1.1 _ (by omega) (by omega)))) ?_
    refine sw_callV (B' := B0) (As := [vi (((gN P : Nat) : Int))]) (mc := 0) (ms := 0) (dX8_tallest.at 16 rfl) lk_X8_225 (S_lt 5 (by decide)) (S_5 nw nx g) rfl rfl (Nat.le_of_ble_eq_true rfl) rfl (Nat.le_refl _) (Nat.le_refl _) ?_
    refine c_X4_highestNumber (q0 := (gN P)) (j := j + 3) hv.1 hv.2.1 ?_
    replace hv := hv.2.2
    exact sw_iret (dX8_tallest.at 17 rfl) rfl (Nat.le_refl _) (Nat.le_refl _) hv
  · replace hv := hv.2.2 q
    refine sw_bipush (dX8_tallest.at 4 rfl) (by decide) ?_
    exact sw_iret (dX8_tallest.at 5 rfl) rfl (Nat.le_refl _) (Nat.le_refl _) hv

set_option maxHeartbeats 2000000 in
theorem c_X8_tallest {G : GG} {j nw nx gn : Nat} {g : Nat → Sh} {c : Nat → Nat → Int} {post : Option AV → AM → Prop} {P : GD} {T : PT} (hnw : nw = 21 ∨ nw = 35) (hE : EL c nw P) (hV : GV P) (hT : HT P T) (hR : PR P T c) (K : ∀ c2 : Nat → Nat → Int, ((∀ a, a ≠ 5 → a ≠ 6 → c2 a = c a) ∧ PR P T c2) → post (some (vi (q_tallest P T))) (S nw nx g, 78 + gn, c2)) : SM G (j + 6) mX8_tallest [vr 0] (S nw nx g, 78 + gn, c) 0 0 post := by
  refine sm_of wX8_tallest rfl (Nat.le_of_ble_eq_true rfl) ?_
  have h60 := GV_N hV
  refine g_X8_tallest_0 hnw hE hV hT hR ?_
  by_cases h0 : gN P = 0
  · rw [q_tallest, if_pos h0] at K
    have K0 := K c ⟨fun _ _ _ => rfl, hR⟩
    refine ⟨?_, ⟨fun q => ⟨?_, fun c_1 h_1 => ⟨?_, ?_, ?_⟩⟩, fun q => ?_⟩⟩
    all_goals first | exact K0 | omega | assumption | (exfalso; omega)
  · rw [q_tallest, if_neg h0] at K
    refine ⟨?_, ⟨fun q => ⟨?_, fun c_1 h_1 => ⟨?_, ?_, ?_⟩⟩, fun q => ?_⟩⟩
    all_goals first | omega | assumption | exact AT_bd hT h_1.2.2 | (have K2 := K c_1 ⟨h_1.1, Or.inr h_1.2⟩; rw [mx1_cong (AT_fT h60 h_1.2.2) _ _ _ (by omega)]; exact K2)

