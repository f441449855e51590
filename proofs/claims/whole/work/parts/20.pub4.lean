/-- the first place from z on, of k, with p; none: -1 -/
def firstF (p : Nat → Bool) : Nat → Nat → Int
  | 0, _ => -1
  | k + 1, z => if p z then (z : Int) else firstF p k (z + 1)
/-- the i-th place with p -/
def kthF (p : Nat → Bool) (i : Nat) : Nat → Nat → Nat → Int
  | 0, _, _ => -1
  | k + 1, z, s => if p z then (if s = i then (z : Int) else kthF p i k (z + 1) (s + 1)) else kthF p i k (z + 1) s
def pMi (P : GD) (x : Nat) : Nat → Bool := fun i => decide (gO P (gX P (gT P i) x) < gO P x)
def gPw (P : GD) (x : Nat) : Nat → Nat
  | 0 => x
  | t + 1 => gX P (gPw P x t) x
def ordF (P : GD) (x : Nat) : Nat → Nat → Nat
  | 0, t => t + 1
  | f + 1, t => if gPw P x t = 0 then t + 1 else ordF P x f (t + 1)
theorem gPw_lt {P : GD} (hV : GV P) {x : Nat} (hx : x < gN P) : ∀ t, gPw P x t < gN P := by
  intro t
  induction t with
  | zero => exact hx
  | succ t ih => exact hV.2.2.2.2.1 _ _ ih hx
def meetF (P : GD) (x y sd : Nat) : Nat → Nat
  | 0 => 0
  | z + 1 => if gWk P (z + 1) x sd && gWk P (z + 1) y sd then z + 1 else meetF P x y sd z
def pJo (P : GD) (x y sd : Nat) : Nat → Bool := fun z => gWk P x z sd && gWk P y z sd
def joinF (P : GD) (x y sd : Nat) : Nat → Nat → Nat
  | 0, z => z
  | k + 1, z => if pJo P x y sd z then z else joinF P x y sd k (z + 1)
set_option maxHeartbeats 2000000 in
set_option maxRecDepth 20000 in
theorem g_X8_mirror_13 {G : GG} {j nw nx gn : Nat} {g : Nat → Sh} {c : Nat → Nat → Int} {post : Option AV → AM → Prop} {x : Nat} {P : GD} {z : Nat} (hnw : nw = 21 ∨ nw = 35) (hE : EL c nw P) (hV : GV P)  (hv : (z < 2147483648) ∧ (gM P < 2147483648) ∧ (((gM P ≤ z) → post (some (vi ((-1)))) (S nw nx g, 78 + gn, c)) ∧ ((¬ (gM P ≤ z)) → (z < gM P) ∧ (((gT P z) < gN P) ∧ (x < gN P) ∧ ((gX P (gT P z) x < gN P) ∧ ((x < gN P) ∧ ((gO P (gX P (gT P z) x) < 2147483648) ∧ (gO P x < 2147483648) ∧ (((gO P x ≤ gO P (gX P (gT P z) x)) → SW G (j + 1) mX8_mirror 13 [some (vr (0)), some (vi (((x : Nat) : Int))), some (vi (((z + 1 : Nat) : Int))), none] [] (S nw nx g, 78 + gn, c) B0 post) ∧ ((¬ (gO P x ≤ gO P (gX P (gT P z) x))) → post (some (vi (((z : Nat) : Int)))) (S nw nx g, 78 + gn, c)))))))))) :
    SW G (j + 1) mX8_mirror 13 [some (vr (0)), some (vi (((x : Nat) : Int))), some (vi (((z : Nat) : Int))), none] [] (S nw nx g, 78 + gn, c) B0 post := by
  refine sw_iload_n (dX8_mirror.at 8 rfl) rfl rfl ?_
  refine sw_aload_n (dX8_mirror.at 9 rfl) rfl rfl ?_
  refine sw_getR (dX8_mirror.at 10 rfl) fp_X8_65 (S_lt 0 (by decide)) (S_0 nw nx g) rfl rfl ?_
  refine sw_getIE (w := ((gM P : Nat) : Int)) (dX8_mirror.at 11 rfl) fp_X8_116 (S_e_lt hnw) (S_e hnw) rfl (EL_M hE) ?_
  refine sw_icmpN_ge z (gM P) (tgt := 71) (dX8_mirror.at 12 rfl) (by decide) hv.1 hv.2.1 (fun q => ?_) (fun q => ?_)
  · replace hv := hv.2.2.1 q
    refine sw_iconst (dX8_mirror.at 38 rfl) ?_
    exact sw_iret (dX8_mirror.at 39 rfl) rfl (Nat.le_refl _) (Nat.le_refl _) hv
  · replace hv := hv.2.2.2 q
    refine sw_aload_n (dX8_mirror.at 13 rfl) rfl rfl ?_
    refine sw_getR (dX8_mirror.at 14 rfl) fp_X8_65 (S_lt 0 (by decide)) (S_0 nw nx g) rfl rfl ?_
    refine sw_aload_n (dX8_mirror.at 15 rfl) rfl rfl ?_
    refine sw_getR (dX8_mirror.at 16 rfl) fp_X8_65 (S_lt 0 (by decide)) (S_0 nw nx g) rfl rfl ?_
    refine sw_getR (dX8_mirror.at 17 rfl) fp_X8_173 (S_e_lt hnw) (S_e hnw) rfl rfl ?_
    refine sw_iload_n (dX8_mirror.at 18 rfl) rfl rfl ?_
    refine sw_ialdN z (w := ((gT P z : Nat) : Int)) (dX8_mirror.at 19 rfl) (S_ek_lt hnw (by decide)) (S_e_10 hnw) (by decide) (GV_ltM hV hv.1) (EL_T hE hv.1) ?_
    replace hv := hv.2
    refine sw_iload_n (dX8_mirror.at 20 rfl) rfl rfl ?_
    refine sw_callV (B' := B0) (As := [vi (((gT P z : Nat) : Int)), vi (((x : Nat) : Int))]) (mc := 0) (ms := 0) (dX8_mirror.at 21 rfl) lk_X8_161 (S_e_lt hnw) (S_e hnw) rfl rfl (Nat.le_of_ble_eq_true rfl) rfl (Nat.le_refl _) (Nat.le_refl _) ?_
    refine c_X1_mulP (e := nw) (x := (gT P z)) (y := x) (j := j + 0) hnw hE hV hv.1 hv.2.1 ?_
    replace hv := hv.2.2
    refine sw_istore_n (lo' := [some (vr (0)), some (vi (((x : Nat) : Int))), some (vi (((z : Nat) : Int))), some (vi (((gX P (gT P z) x : Nat) : Int)))]) (dX8_mirror.at 22 rfl) rfl (by decide) rfl ?_
    refine sw_aload_n (dX8_mirror.at 23 rfl) rfl rfl ?_
    refine sw_getR (dX8_mirror.at 24 rfl) fp_X8_65 (S_lt 0 (by decide)) (S_0 nw nx g) rfl rfl ?_
    refine sw_getR (dX8_mirror.at 25 rfl) fp_X8_282 (S_e_lt hnw) (S_e hnw) rfl rfl ?_
    refine sw_iload_n (dX8_mirror.at 26 rfl) rfl rfl ?_
    refine sw_ialdN (gX P (gT P z) x) (w := ((gO P (gX P (gT P z) x) : Nat) : Int)) (dX8_mirror.at 27 rfl) (S_ek_lt hnw (by decide)) (S_e_11 hnw) (by decide) (GV_lt hV hv.1) (EL_O hE hv.1) ?_
    replace hv := hv.2
    refine sw_aload_n (dX8_mirror.at 28 rfl) rfl rfl ?_
    refine sw_getR (dX8_mirror.at 29 rfl) fp_X8_65 (S_lt 0 (by decide)) (S_0 nw nx g) rfl rfl ?_
    refine sw_getR (dX8_mirror.at 30 rfl) fp_X8_282 (S_e_lt hnw) (S_e hnw) rfl rfl ?_
    refine sw_iload_n (dX8_mirror.at 31 rfl) rfl rfl ?_
    refine sw_ialdN x (w := ((gO P x : Nat) : Int)) (dX8_mirror.at 32 rfl) (S_ek_lt hnw (by decide)) (S_e_11 hnw) (by decide) (GV_lt hV hv.1) (EL_O hE hv.1) ?_
    replace hv := hv.2
    refine sw_icmpN_ge (gO P (gX P (gT P z) x)) (gO P x) (tgt := 65) (dX8_mirror.at 33 rfl) (by decide) hv.1 hv.2.1 (fun q => ?_) (fun q => ?_)
    · replace hv := hv.2.2.1 q
      refine sw_iinc (lo' := [some (vr (0)), some (vi (((x : Nat) : Int))), some (vi (((z + 1 : Nat) : Int))), some (vi (((gX P (gT P z) x : Nat) : Int)))]) (dX8_mirror.at 36 rfl) rfl (by decide) rfl ?_
      refine sw_goto (tgt := 13) (dX8_mirror.at 37 rfl) (by decide) ?_
      exact sw_mask (bs := [true, true, true, false]) hv
    · replace hv := hv.2.2.2 q
      refine sw_iload_n (dX8_mirror.at 34 rfl) rfl rfl ?_
      exact sw_iret (dX8_mirror.at 35 rfl) rfl (Nat.le_refl _) (Nat.le_refl _) hv

set_option maxHeartbeats 2000000 in
theorem lp_X8_mirror_13 {G : GG} {j nw nx gn : Nat} {g : Nat → Sh} {c : Nat → Nat → Int} {post : Option AV → AM → Prop} {P : GD} {x : Nat} (hnw : nw = 21 ∨ nw = 35) (hE : EL c nw P) (hV : GV P) (hx0 : x < gN P) : ∀ k z : Nat, z + k = gM P → post (some (vi (firstF (pMi P x) k z))) (S nw nx g, 78 + gn, c) → SW G (j + 1) mX8_mirror 13 [some (vr (0)), some (vi (((x : Nat) : Int))), some (vi (((z : Nat) : Int))), none] [] (S nw nx g, 78 + gn, c) B0 post := by
  intro k
  induction k with
  | zero =>
    intro z hx K
    refine g_X8_mirror_13 hnw hE hV ?_
    have := GV_N hV
    have hm := hV.1.2.2.1
    have f0 := (hV.2.2.1 x hx0).2.2.2.2.2.2.1
    have f1 := fun h => hV.2.2.2.2.2 z h
    have f2 := fun h => hV.2.2.2.2.1 (gT P z) x (f1 h) hx0
    have f3 := fun h => (hV.2.2.1 _ (f2 h)).2.2.2.2.2.2.1
    simp only [firstF, pMi] at K
    refine ⟨?_, ?_, ⟨fun q => ?_, fun q => ⟨?_, ⟨?_, ?_, ⟨?_, ⟨?_, ⟨?_, ?_, ⟨fun q => ?_, fun q => ?_⟩⟩⟩⟩⟩⟩⟩⟩
    all_goals first | exact K | omega | (exfalso; omega)
  | succ k ih =>
    intro z hx K
    refine g_X8_mirror_13 hnw hE hV ?_
    have := GV_N hV
    have hm := hV.1.2.2.1
    have f0 := (hV.2.2.1 x hx0).2.2.2.2.2.2.1
    have f1 := fun h => hV.2.2.2.2.2 z h
    have f2 := fun h => hV.2.2.2.2.1 (gT P z) x (f1 h) hx0
    have f3 := fun h => (hV.2.2.1 _ (f2 h)).2.2.2.2.2.2.1
    simp only [firstF, pMi] at K
    refine ⟨?_, ?_, ⟨fun q => ?_, fun q => ⟨?_, ⟨?_, ?_, ⟨?_, ⟨?_, ⟨?_, ?_, ⟨fun q => ?_, fun q => ?_⟩⟩⟩⟩⟩⟩⟩⟩
    all_goals first | omega | (exfalso; omega) | assumption | exact f1 (by omega) | exact f2 (by omega) | (have := f3 (by omega); omega) | (have h9 : gO P (gX P (gT P z) x) < gO P x := (by omega); simp only [h9, decide_true, eq_self, if_true] at K; exact K) | (have h9 : ¬ (gO P (gX P (gT P z) x) < gO P x) := (by omega); simp only [h9, decide_false, Bool.false_eq_true, if_false] at K; exact ih _ (by omega) K) | (simp only [*, if_true, if_false, ite_true, ite_false, Bool.false_eq_true, and_true, true_and, and_false, false_and, Bool.and_true, Bool.and_false, Bool.true_and, Bool.false_and, decide_true, decide_false, eq_self] at K; exact K) | (simp only [*, if_true, if_false, ite_true, ite_false, Bool.false_eq_true, and_true, true_and, and_false, false_and, Bool.and_true, Bool.and_false, Bool.true_and, Bool.false_and, decide_true, decide_false, eq_self] at K; exact ih _  (by omega) K)

def q_mirror (P : GD) (x : Int) : Int := if 0 ≤ x ∧ x < (gN P : Int) then firstF (pMi P x.toNat) (gM P) 0 else (-2)
set_option maxHeartbeats 2000000 in
set_option maxRecDepth 20000 in
theorem g_X8_mirror_0n {G : GG} {j nw nx gn : Nat} {g : Nat → Sh} {c : Nat → Nat → Int} {post : Option AV → AM → Prop} {x : Nat} {P : GD} (hnw : nw = 21 ∨ nw = 35) (hE : EL c nw P) (hV : GV P)  (hv : (-2147483648 ≤ ((x : Nat) : Int) ∧ ((x : Nat) : Int) < 2147483648) ∧ ((((decide (0 ≤ ((x : Nat) : Int) ∧ ((x : Nat) : Int) < (gN P : Int))) = true) → SW G (j + 1) mX8_mirror 13 [some (vr (0)), some (vi (((x : Nat) : Int))), some (vi (0)), none] [] (S nw nx g, 78 + gn, c) B0 post) ∧ (((decide (0 ≤ ((x : Nat) : Int) ∧ ((x : Nat) : Int) < (gN P : Int))) = false) → post (some (vi ((-2)))) (S nw nx g, 78 + gn, c)))) :
    SW G (j + 1) mX8_mirror 0 [some (vr (0)), some (vi (((x : Nat) : Int))), none, none] [] (S nw nx g, 78 + gn, c) B0 post := by
  refine sw_aload_n (dX8_mirror.at 0 rfl) rfl rfl ?_
  refine sw_iload_n (dX8_mirror.at 1 rfl) rfl rfl ?_
  refine sw_callV (B' := B0) (As := [vi (((x : Nat) : Int))]) (mc := 0) (ms := 0) (dX8_mirror.at 2 rfl) lk_X8_130 (S_lt 0 (by decide)) (S_0 nw nx g) rfl rfl (Nat.le_of_ble_eq_true rfl) rfl (Nat.le_refl _) (Nat.le_refl _) ?_
  refine c_X8_isElementP (x := ((x : Nat) : Int)) (j := j + 0) hnw hE hV hv.1 ?_
  replace hv := hv.2
  refine sw_if_ne (tgt := 11) (dX8_mirror.at 3 rfl) (by decide) (bz_rng _) (fun q => ?_) (fun q => ?_)
  · replace hv := hv.1 (bz_1 q)
    refine sw_iconst (dX8_mirror.at 6 rfl) ?_
    refine sw_istore_n (lo' := [some (vr (0)), some (vi (((x : Nat) : Int))), some (vi (0)), none]) (dX8_mirror.at 7 rfl) rfl (by decide) rfl ?_
    exact hv
  · replace hv := hv.2 (bz_n1 q)
    refine sw_bipush (dX8_mirror.at 4 rfl) (by decide) ?_
    exact sw_iret (dX8_mirror.at 5 rfl) rfl (Nat.le_refl _) (Nat.le_refl _) hv

set_option maxHeartbeats 2000000 in
set_option maxRecDepth 20000 in
theorem g_X8_mirror_0 {G : GG} {j nw nx gn : Nat} {g : Nat → Sh} {c : Nat → Nat → Int} {post : Option AV → AM → Prop} {x : Int} {P : GD} (hnw : nw = 21 ∨ nw = 35) (hE : EL c nw P) (hV : GV P)  (hv : (-2147483648 ≤ x ∧ x < 2147483648) ∧ ((((decide (0 ≤ x ∧ x < (gN P : Int))) = true) → SW G (j + 1) mX8_mirror 13 [some (vr (0)), some (vi (x)), some (vi (0)), none] [] (S nw nx g, 78 + gn, c) B0 post) ∧ (((decide (0 ≤ x ∧ x < (gN P : Int))) = false) → post (some (vi ((-2)))) (S nw nx g, 78 + gn, c)))) :
    SW G (j + 1) mX8_mirror 0 [some (vr (0)), some (vi (x)), none, none] [] (S nw nx g, 78 + gn, c) B0 post := by
  refine sw_aload_n (dX8_mirror.at 0 rfl) rfl rfl ?_
  refine sw_iload_n (dX8_mirror.at 1 rfl) rfl rfl ?_
  refine sw_callV (B' := B0) (As := [vi (x)]) (mc := 0) (ms := 0) (dX8_mirror.at 2 rfl) lk_X8_130 (S_lt 0 (by decide)) (S_0 nw nx g) rfl rfl (Nat.le_of_ble_eq_true rfl) rfl (Nat.le_refl _) (Nat.le_refl _) ?_
  refine c_X8_isElementP (x := x) (j := j + 0) hnw hE hV hv.1 ?_
  replace hv := hv.2
  refine sw_if_ne (tgt := 11) (dX8_mirror.at 3 rfl) (by decide) (bz_rng _) (fun q => ?_) (fun q => ?_)
  · replace hv := hv.1 (bz_1 q)
    refine sw_iconst (dX8_mirror.at 6 rfl) ?_
    refine sw_istore_n (lo' := [some (vr (0)), some (vi (x)), some (vi (0)), none]) (dX8_mirror.at 7 rfl) rfl (by decide) rfl ?_
    exact hv
  · replace hv := hv.2 (bz_n1 q)
    refine sw_bipush (dX8_mirror.at 4 rfl) (by decide) ?_
    exact sw_iret (dX8_mirror.at 5 rfl) rfl (Nat.le_refl _) (Nat.le_refl _) hv

set_option maxHeartbeats 4000000 in
theorem c_X8_mirror {G : GG} {j nw nx gn : Nat} {g : Nat → Sh} {c : Nat → Nat → Int} {post : Option AV → AM → Prop} {P : GD} {x : Int} (hnw : nw = 21 ∨ nw = 35) (hE : EL c nw P) (hV : GV P) (p1 : -2147483648 ≤ x ∧ x < 2147483648) (K : post (some (vi (q_mirror P x))) (S nw nx g, 78 + gn, c)) : SM G (j + 2) mX8_mirror [vr (0), vi (x)] (S nw nx g, 78 + gn, c) 0 0 post := by
  refine sm_of wX8_mirror rfl (Nat.le_of_ble_eq_true rfl) ?_
  have hN60 := GV_N hV
  have hR5 := GV_R hV
  by_cases hv : 0 ≤ x ∧ x < (gN P : Int)
  · obtain ⟨x, rfl⟩ : ∃ n : Nat, x = (n : Int) := ⟨x.toNat, by omega⟩
    have e : q_mirror P ((x : Nat) : Int) = firstF (pMi P x) (gM P) 0 := by
      rw [q_mirror, if_pos hv]
      simp only [Int.toNat_natCast]
    rw [e] at K
    have K1 : ∀ z : Int, z = (firstF (pMi P x) (gM P) 0) → post (some (vi z)) (S nw nx g, 78 + gn, c) := fun z h => h ▸ K
    have hx : x < gN P := by omega
    have fx := hV.2.2.1 x hx
    refine g_X8_mirror_0n hnw hE hV ?_
    refine ⟨?_, ⟨fun q => ?_, fun q => ?_⟩⟩
    all_goals first | exact lp_X8_mirror_13 hnw hE hV hx (gM P) 0 (by omega) K | omega | assumption | (exfalso; simp only [decide_eq_true_eq, decide_eq_false_iff_not] at *; omega)
  · have e : q_mirror P x = (-2) := by rw [q_mirror, if_neg hv]
    rw [e] at K
    refine g_X8_mirror_0 hnw hE hV ?_
    refine ⟨?_, ⟨fun q => ?_, fun q => ?_⟩⟩
    all_goals first | exact K | omega | assumption | (exfalso; simp only [decide_eq_true_eq, decide_eq_false_iff_not] at *; omega)

set_option maxHeartbeats 2000000 in
set_option maxRecDepth 20000 in
theorem g_X8_order_15 {G : GG} {j nw nx gn : Nat} {g : Nat → Sh} {c : Nat → Nat → Int} {post : Option AV → AM → Prop} {x : Nat} {P : GD} {t : Nat} (hnw : nw = 21 ∨ nw = 35) (hE : EL c nw P) (hV : GV P)  (hv : (gPw P x t < 2147483648) ∧ (((gPw P x t = 0) → post (some (vi (((t + 1 : Nat) : Int)))) (S nw nx g, 78 + gn, c)) ∧ ((¬ (gPw P x t = 0)) → (t + 1 < 2147483648) ∧ (((60 ≤ t + 1) → post (some (vi (((t + 1 : Nat) : Int)))) (S nw nx g, 78 + gn, c)) ∧ ((¬ (60 ≤ t + 1)) → ((gPw P x t) < gN P) ∧ (x < gN P) ∧ (SW G (j + 2) mX8_order 15 [some (vr (0)), some (vi (((x : Nat) : Int))), some (vi (((gX P (gPw P x t) x : Nat) : Int))), some (vi ((((t + 1) + 1 : Nat) : Int)))] [] (S nw nx g, 78 + gn, c) B0 post)))))) :
    SW G (j + 2) mX8_order 15 [some (vr (0)), some (vi (((x : Nat) : Int))), some (vi (((gPw P x t : Nat) : Int))), some (vi (((t + 1 : Nat) : Int)))] [] (S nw nx g, 78 + gn, c) B0 post := by
  refine sw_iload_n (dX8_order.at 10 rfl) rfl rfl ?_
  refine sw_ifN_eq (gPw P x t) (tgt := 41) (dX8_order.at 11 rfl) (by decide) hv.1 (fun q => ?_) (fun q => ?_)
  · replace hv := hv.2.1 q
    refine sw_iload_n (dX8_order.at 23 rfl) rfl rfl ?_
    exact sw_iret (dX8_order.at 24 rfl) rfl (Nat.le_refl _) (Nat.le_refl _) hv
  · replace hv := hv.2.2 q
    refine sw_iload_n (dX8_order.at 12 rfl) rfl rfl ?_
    refine sw_bipush (dX8_order.at 13 rfl) (by decide) ?_
    refine sw_icmpN_ge (t + 1) 60 (tgt := 41) (dX8_order.at 14 rfl) (by decide) hv.1 (by decide) (fun q => ?_) (fun q => ?_)
    · replace hv := hv.2.1 q
      refine sw_iload_n (dX8_order.at 23 rfl) rfl rfl ?_
      exact sw_iret (dX8_order.at 24 rfl) rfl (Nat.le_refl _) (Nat.le_refl _) hv
    · replace hv := hv.2.2 q
      refine sw_aload_n (dX8_order.at 15 rfl) rfl rfl ?_
      refine sw_getR (dX8_order.at 16 rfl) fp_X8_65 (S_lt 0 (by decide)) (S_0 nw nx g) rfl rfl ?_
      refine sw_iload_n (dX8_order.at 17 rfl) rfl rfl ?_
      refine sw_iload_n (dX8_order.at 18 rfl) rfl rfl ?_
      refine sw_callV (B' := B0) (As := [vi (((gPw P x t : Nat) : Int)), vi (((x : Nat) : Int))]) (mc := 0) (ms := 0) (dX8_order.at 19 rfl) lk_X8_161 (S_e_lt hnw) (S_e hnw) rfl rfl (Nat.le_of_ble_eq_true rfl) rfl (Nat.le_refl _) (Nat.le_refl _) ?_
      refine c_X1_mulP (e := nw) (x := (gPw P x t)) (y := x) (j := j + 1) hnw hE hV hv.1 hv.2.1 ?_
      replace hv := hv.2.2
      refine sw_istore_n (lo' := [some (vr (0)), some (vi (((x : Nat) : Int))), some (vi (((gX P (gPw P x t) x : Nat) : Int))), some (vi (((t + 1 : Nat) : Int)))]) (dX8_order.at 20 rfl) rfl (by decide) rfl ?_
      refine sw_iinc (lo' := [some (vr (0)), some (vi (((x : Nat) : Int))), some (vi (((gX P (gPw P x t) x : Nat) : Int))), some (vi ((((t + 1) + 1 : Nat) : Int)))]) (dX8_order.at 21 rfl) rfl (by decide) rfl ?_
      refine sw_goto (tgt := 15) (dX8_order.at 22 rfl) (by decide) ?_
      exact hv

set_option maxHeartbeats 2000000 in
theorem lp_X8_order_15 {G : GG} {j nw nx gn : Nat} {g : Nat → Sh} {c : Nat → Nat → Int} {post : Option AV → AM → Prop} {P : GD} {x : Nat} (hnw : nw = 21 ∨ nw = 35) (hE : EL c nw P) (hV : GV P) (hx : x < gN P) : ∀ k t : Nat, t + k = 59 → post (some (vi (((ordF P x k t : Nat) : Int)))) (S nw nx g, 78 + gn, c) →
    SW G (j + 2) mX8_order 15 [some (vr (0)), some (vi (((x : Nat) : Int))), some (vi (((gPw P x t : Nat) : Int))), some (vi (((t + 1 : Nat) : Int)))] [] (S nw nx g, 78 + gn, c) B0 post := by
  intro k
  have h60 := GV_N hV
  induction k with
  | zero =>
    intro t ht K
    have hp := gPw_lt hV hx t
    refine g_X8_order_15 hnw hE hV ?_
    simp only [ordF] at K
    refine ⟨?_, ⟨fun q => ?_, fun q => ⟨?_, ⟨fun q => ?_, fun q => ⟨?_, ?_, ?_⟩⟩⟩⟩⟩
    all_goals first | exact K | omega | (exfalso; omega)
  | succ k ih =>
    intro t ht K
    have hp := gPw_lt hV hx t
    refine g_X8_order_15 hnw hE hV ?_
    simp only [ordF] at K
    refine ⟨?_, ⟨fun q => ?_, fun q => ⟨?_, ⟨fun q => ?_, fun q => ⟨?_, ?_, ?_⟩⟩⟩⟩⟩
    all_goals first | omega | assumption | (exfalso; omega) | (have h0 : gPw P x t = 0 := (by omega); rw [if_pos h0] at K; exact K) | (have h0 : ¬ gPw P x t = 0 := (by omega); rw [if_neg h0] at K; exact ih (t + 1) (by omega) K)

def q_order (P : GD) (x : Int) : Int := if 0 ≤ x ∧ x < (gN P : Int) then ((ordF P x.toNat 59 0 : Nat) : Int) else (-2)
set_option maxHeartbeats 2000000 in
set_option maxRecDepth 20000 in
theorem g_X8_order_0n {G : GG} {j nw nx gn : Nat} {g : Nat → Sh} {c : Nat → Nat → Int} {post : Option AV → AM → Prop} {x : Nat} {P : GD} (hnw : nw = 21 ∨ nw = 35) (hE : EL c nw P) (hV : GV P)  (hv : (-2147483648 ≤ ((x : Nat) : Int) ∧ ((x : Nat) : Int) < 2147483648) ∧ ((((decide (0 ≤ ((x : Nat) : Int) ∧ ((x : Nat) : Int) < (gN P : Int))) = true) → SW G (j + 2) mX8_order 15 [some (vr (0)), some (vi (((x : Nat) : Int))), some (vi (((x : Nat) : Int))), some (vi (1))] [] (S nw nx g, 78 + gn, c) B0 post) ∧ (((decide (0 ≤ ((x : Nat) : Int) ∧ ((x : Nat) : Int) < (gN P : Int))) = false) → post (some (vi ((-2)))) (S nw nx g, 78 + gn, c)))) :
    SW G (j + 2) mX8_order 0 [some (vr (0)), some (vi (((x : Nat) : Int))), none, none] [] (S nw nx g, 78 + gn, c) B0 post := by
  refine sw_aload_n (dX8_order.at 0 rfl) rfl rfl ?_
  refine sw_iload_n (dX8_order.at 1 rfl) rfl rfl ?_
  refine sw_callV (B' := B0) (As := [vi (((x : Nat) : Int))]) (mc := 0) (ms := 0) (dX8_order.at 2 rfl) lk_X8_130 (S_lt 0 (by decide)) (S_0 nw nx g) rfl rfl (Nat.le_of_ble_eq_true rfl) rfl (Nat.le_refl _) (Nat.le_refl _) ?_
  refine c_X8_isElementP (x := ((x : Nat) : Int)) (j := j + 1) hnw hE hV hv.1 ?_
  replace hv := hv.2
  refine sw_if_ne (tgt := 11) (dX8_order.at 3 rfl) (by decide) (bz_rng _) (fun q => ?_) (fun q => ?_)
  · replace hv := hv.1 (bz_1 q)
    refine sw_iload_n (dX8_order.at 6 rfl) rfl rfl ?_
    refine sw_istore_n (lo' := [some (vr (0)), some (vi (((x : Nat) : Int))), some (vi (((x : Nat) : Int))), none]) (dX8_order.at 7 rfl) rfl (by decide) rfl ?_
    refine sw_iconst (dX8_order.at 8 rfl) ?_
    refine sw_istore_n (lo' := [some (vr (0)), some (vi (((x : Nat) : Int))), some (vi (((x : Nat) : Int))), some (vi (1))]) (dX8_order.at 9 rfl) rfl (by decide) rfl ?_
    exact hv
  · replace hv := hv.2 (bz_n1 q)
    refine sw_bipush (dX8_order.at 4 rfl) (by decide) ?_
    exact sw_iret (dX8_order.at 5 rfl) rfl (Nat.le_refl _) (Nat.le_refl _) hv

set_option maxHeartbeats 2000000 in
set_option maxRecDepth 20000 in
theorem g_X8_order_0 {G : GG} {j nw nx gn : Nat} {g : Nat → Sh} {c : Nat → Nat → Int} {post : Option AV → AM → Prop} {x : Int} {P : GD} (hnw : nw = 21 ∨ nw = 35) (hE : EL c nw P) (hV : GV P)  (hv : (-2147483648 ≤ x ∧ x < 2147483648) ∧ ((((decide (0 ≤ x ∧ x < (gN P : Int))) = true) → SW G (j + 2) mX8_order 15 [some (vr (0)), some (vi (x)), some (vi (x)), some (vi (1))] [] (S nw nx g, 78 + gn, c) B0 post) ∧ (((decide (0 ≤ x ∧ x < (gN P : Int))) = false) → post (some (vi ((-2)))) (S nw nx g, 78 + gn, c)))) :
    SW G (j + 2) mX8_order 0 [some (vr (0)), some (vi (x)), none, none] [] (S nw nx g, 78 + gn, c) B0 post := by
  refine sw_aload_n (dX8_order.at 0 rfl) rfl rfl ?_
  refine sw_iload_n (dX8_order.at 1 rfl) rfl rfl ?_
  refine sw_callV (B' := B0) (As := [vi (x)]) (mc := 0) (ms := 0) (dX8_order.at 2 rfl) lk_X8_130 (S_lt 0 (by decide)) (S_0 nw nx g) rfl rfl (Nat.le_of_ble_eq_true rfl) rfl (Nat.le_refl _) (Nat.le_refl _) ?_
  refine c_X8_isElementP (x := x) (j := j + 1) hnw hE hV hv.1 ?_
  replace hv := hv.2
  refine sw_if_ne (tgt := 11) (dX8_order.at 3 rfl) (by decide) (bz_rng _) (fun q => ?_) (fun q => ?_)
  · replace hv := hv.1 (bz_1 q)
    refine sw_iload_n (dX8_order.at 6 rfl) rfl rfl ?_
    refine sw_istore_n (lo' := [some (vr (0)), some (vi (x)), some (vi (x)), none]) (dX8_order.at 7 rfl) rfl (by decide) rfl ?_
    refine sw_iconst (dX8_order.at 8 rfl) ?_
    refine sw_istore_n (lo' := [some (vr (0)), some (vi (x)), some (vi (x)), some (vi (1))]) (dX8_order.at 9 rfl) rfl (by decide) rfl ?_
    exact hv
  · replace hv := hv.2 (bz_n1 q)
    refine sw_bipush (dX8_order.at 4 rfl) (by decide) ?_
    exact sw_iret (dX8_order.at 5 rfl) rfl (Nat.le_refl _) (Nat.le_refl _) hv

set_option maxHeartbeats 4000000 in
theorem c_X8_order {G : GG} {j nw nx gn : Nat} {g : Nat → Sh} {c : Nat → Nat → Int} {post : Option AV → AM → Prop} {P : GD} {x : Int} (hnw : nw = 21 ∨ nw = 35) (hE : EL c nw P) (hV : GV P) (p1 : -2147483648 ≤ x ∧ x < 2147483648) (K : post (some (vi (q_order P x))) (S nw nx g, 78 + gn, c)) : SM G (j + 3) mX8_order [vr (0), vi (x)] (S nw nx g, 78 + gn, c) 0 0 post := by
  refine sm_of wX8_order rfl (Nat.le_of_ble_eq_true rfl) ?_
  have hN60 := GV_N hV
  have hR5 := GV_R hV
  by_cases hv : 0 ≤ x ∧ x < (gN P : Int)
  · obtain ⟨x, rfl⟩ : ∃ n : Nat, x = (n : Int) := ⟨x.toNat, by omega⟩
    have e : q_order P ((x : Nat) : Int) = ((ordF P x 59 0 : Nat) : Int) := by
      rw [q_order, if_pos hv]
      simp only [Int.toNat_natCast]
    rw [e] at K
    have K1 : ∀ z : Int, z = (((ordF P x 59 0 : Nat) : Int)) → post (some (vi z)) (S nw nx g, 78 + gn, c) := fun z h => h ▸ K
    have hx : x < gN P := by omega
    have fx := hV.2.2.1 x hx
    refine g_X8_order_0n hnw hE hV ?_
    refine ⟨?_, ⟨fun q => ?_, fun q => ?_⟩⟩
    all_goals first | exact lp_X8_order_15 hnw hE hV hx 59 0 (by omega) K | omega | assumption | (exfalso; simp only [decide_eq_true_eq, decide_eq_false_iff_not] at *; omega)
  · have e : q_order P x = (-2) := by rw [q_order, if_neg hv]
    rw [e] at K
    refine g_X8_order_0 hnw hE hV ?_
    refine ⟨?_, ⟨fun q => ?_, fun q => ?_⟩⟩
    all_goals first | exact K | omega | assumption | (exfalso; simp only [decide_eq_true_eq, decide_eq_false_iff_not] at *; omega)

set_option maxHeartbeats 2000000 in
set_option maxRecDepth 20000 in
theorem g_X8_meet_30 {G : GG} {j nw nx gn : Nat} {g : Nat → Sh} {c : Nat → Nat → Int} {post : Option AV → AM → Prop} {x : Nat} {y : Nat} {sd : Nat} {P : GD} {z : Nat} (hnw : nw = 21 ∨ nw = 35) (hE : EL c nw P) (hV : GV P)  (hv : (z < 2147483648) ∧ (((((z : Nat) : Int) ≤ 0) → post (some (vi (0))) (S nw nx g, 78 + gn, c)) ∧ ((¬ (((z : Nat) : Int) ≤ 0)) → (z < gN P) ∧ (x < gN P) ∧ (sd < 2) ∧ ((((gWk P z x sd) = false) → SW G (j + 2) mX8_meet 30 [some (vr (0)), some (vi (((x : Nat) : Int))), some (vi (((y : Nat) : Int))), some (vi (((sd : Nat) : Int))), some (vi (((z : Nat) : Int) + (-1)))] [] (S nw nx g, 78 + gn, c) B0 post) ∧ (((gWk P z x sd) = true) → (z < gN P) ∧ (y < gN P) ∧ (sd < 2) ∧ ((((gWk P z y sd) = false) → SW G (j + 2) mX8_meet 30 [some (vr (0)), some (vi (((x : Nat) : Int))), some (vi (((y : Nat) : Int))), some (vi (((sd : Nat) : Int))), some (vi (((z : Nat) : Int) + (-1)))] [] (S nw nx g, 78 + gn, c) B0 post) ∧ (((gWk P z y sd) = true) → post (some (vi (((z : Nat) : Int)))) (S nw nx g, 78 + gn, c)))))))) :
    SW G (j + 2) mX8_meet 30 [some (vr (0)), some (vi (((x : Nat) : Int))), some (vi (((y : Nat) : Int))), some (vi (((sd : Nat) : Int))), some (vi (((z : Nat) : Int)))] [] (S nw nx g, 78 + gn, c) B0 post := by
  refine sw_iload (dX8_meet.at 16 rfl) rfl ?_
  refine sw_if_le (tgt := 72) (dX8_meet.at 17 rfl) (by decide) (nrng hv.1) (fun q => ?_) (fun q => ?_)
  · replace hv := hv.2.1 q
    refine sw_iconst (dX8_meet.at 36 rfl) ?_
    exact sw_iret (dX8_meet.at 37 rfl) rfl (Nat.le_refl _) (Nat.le_refl _) hv
  · replace hv := hv.2.2 q
    refine sw_aload_n (dX8_meet.at 18 rfl) rfl rfl ?_
    refine sw_getR (dX8_meet.at 19 rfl) fp_X8_65 (S_lt 0 (by decide)) (S_0 nw nx g) rfl rfl ?_
    refine sw_iload (dX8_meet.at 20 rfl) rfl ?_
    refine sw_iload_n (dX8_meet.at 21 rfl) rfl rfl ?_
    refine sw_iload_n (dX8_meet.at 22 rfl) rfl rfl ?_
    refine sw_callV (B' := B0) (As := [vi (((z : Nat) : Int)), vi (((x : Nat) : Int)), vi (((sd : Nat) : Int))]) (mc := 0) (ms := 0) (dX8_meet.at 23 rfl) lk_X8_275 (S_e_lt hnw) (S_e hnw) rfl rfl (Nat.le_of_ble_eq_true rfl) rfl (Nat.le_refl _) (Nat.le_refl _) ?_
    refine c_X1_isWeaklyBelow (e := nw) (v := z) (w := x) (sd := sd) (j := j + 0) hnw hE hV hv.1 hv.2.1 hv.2.2.1 ?_
    replace hv := hv.2.2.2
    refine sw_if_eq (tgt := 66) (dX8_meet.at 24 rfl) (by decide) (bz_rng _) (fun q => ?_) (fun q => ?_)
    · replace hv := hv.1 (bz_0 q)
      refine sw_iinc (lo' := [some (vr (0)), some (vi (((x : Nat) : Int))), some (vi (((y : Nat) : Int))), some (vi (((sd : Nat) : Int))), some (vi (((z : Nat) : Int) + (-1)))]) (dX8_meet.at 34 rfl) rfl (by decide) rfl ?_
      refine sw_goto (tgt := 30) (dX8_meet.at 35 rfl) (by decide) ?_
      exact hv
    · replace hv := hv.2 (bz_n0 q)
      refine sw_aload_n (dX8_meet.at 25 rfl) rfl rfl ?_
      refine sw_getR (dX8_meet.at 26 rfl) fp_X8_65 (S_lt 0 (by decide)) (S_0 nw nx g) rfl rfl ?_
      refine sw_iload (dX8_meet.at 27 rfl) rfl ?_
      refine sw_iload_n (dX8_meet.at 28 rfl) rfl rfl ?_
      refine sw_iload_n (dX8_meet.at 29 rfl) rfl rfl ?_
      refine sw_callV (B' := B0) (As := [vi (((z : Nat) : Int)), vi (((y : Nat) : Int)), vi (((sd : Nat) : Int))]) (mc := 0) (ms := 0) (dX8_meet.at 30 rfl) lk_X8_275 (S_e_lt hnw) (S_e hnw) rfl rfl (Nat.le_of_ble_eq_true rfl) rfl (Nat.le_refl _) (Nat.le_refl _) ?_
      refine c_X1_isWeaklyBelow (e := nw) (v := z) (w := y) (sd := sd) (j := j + 0) hnw hE hV hv.1 hv.2.1 hv.2.2.1 ?_
      replace hv := hv.2.2.2
      refine sw_if_eq (tgt := 66) (dX8_meet.at 31 rfl) (by decide) (bz_rng _) (fun q => ?_) (fun q => ?_)
      · replace hv := hv.1 (bz_0 q)
        refine sw_iinc (lo' := [some (vr (0)), some (vi (((x : Nat) : Int))), some (vi (((y : Nat) : Int))), some (vi (((sd : Nat) : Int))), some (vi (((z : Nat) : Int) + (-1)))]) (dX8_meet.at 34 rfl) rfl (by decide) rfl ?_
        refine sw_goto (tgt := 30) (dX8_meet.at 35 rfl) (by decide) ?_
        exact hv
      · replace hv := hv.2 (bz_n0 q)
        refine sw_iload (dX8_meet.at 32 rfl) rfl ?_
        exact sw_iret (dX8_meet.at 33 rfl) rfl (Nat.le_refl _) (Nat.le_refl _) hv

set_option maxHeartbeats 2000000 in
theorem lp_X8_meet_30 {G : GG} {j nw nx gn : Nat} {g : Nat → Sh} {c : Nat → Nat → Int} {post : Option AV → AM → Prop} {P : GD} {x y sd : Nat} (hnw : nw = 21 ∨ nw = 35) (hE : EL c nw P) (hV : GV P) (hx : x < gN P) (hy : y < gN P) (hsd : sd < 2) : ∀ z : Nat, z < gN P → post (some (vi (((meetF P x y sd z : Nat) : Int)))) (S nw nx g, 78 + gn, c) →
    SW G (j + 2) mX8_meet 30 [some (vr (0)), some (vi (((x : Nat) : Int))), some (vi (((y : Nat) : Int))), some (vi (((sd : Nat) : Int))), some (vi (((z : Nat) : Int)))] [] (S nw nx g, 78 + gn, c) B0 post := by
  intro z
  have h60 := GV_N hV
  induction z with
  | zero =>
    intro hz K
    refine g_X8_meet_30 hnw hE hV ?_
    simp only [meetF] at K
    refine ⟨?_, ⟨fun q => ?_, fun q => ⟨?_, ?_, ?_, ⟨fun q => ?_, fun q => ⟨?_, ?_, ?_, ⟨fun q => ?_, fun q => ?_⟩⟩⟩⟩⟩⟩
    all_goals first | exact K | omega | (exfalso; omega)
  | succ z ih =>
    intro hz K
    have e1 : ((z + 1 : Nat) : Int) + (-1) = (z : Int) := by omega
    refine g_X8_meet_30 hnw hE hV ?_
    simp only [meetF] at K
    rw [e1]
    refine ⟨?_, ⟨fun q => ?_, fun q => ⟨?_, ?_, ?_, ⟨fun q => ?_, fun q => ⟨?_, ?_, ?_, ⟨fun q => ?_, fun q => ?_⟩⟩⟩⟩⟩⟩
    all_goals first | omega | assumption | (exfalso; omega) | (simp only [*, Bool.and_true, Bool.true_and, Bool.and_false, Bool.false_and, Bool.false_eq_true, if_false, if_true] at K; first | exact K | exact ih (by omega) K)

def q_meet (P : GD) (x y sd : Int) : Int := if ((0 ≤ x ∧ x < (gN P : Int)) ∧ 0 ≤ y ∧ y < (gN P : Int)) ∧ 0 ≤ sd ∧ sd < 2 then ((meetF P x.toNat y.toNat sd.toNat (gN P - 1) : Nat) : Int) else (-2)
set_option maxHeartbeats 2000000 in
set_option maxRecDepth 20000 in
theorem g_X8_meet_0n {G : GG} {j nw nx gn : Nat} {g : Nat → Sh} {c : Nat → Nat → Int} {post : Option AV → AM → Prop} {x : Nat} {y : Nat} {sd : Nat} {P : GD} (hnw : nw = 21 ∨ nw = 35) (hE : EL c nw P) (hV : GV P)  (hv : (-2147483648 ≤ ((x : Nat) : Int) ∧ ((x : Nat) : Int) < 2147483648) ∧ (-2147483648 ≤ ((y : Nat) : Int) ∧ ((y : Nat) : Int) < 2147483648) ∧ ((((decide ((0 ≤ ((x : Nat) : Int) ∧ ((x : Nat) : Int) < (gN P : Int)) ∧ 0 ≤ ((y : Nat) : Int) ∧ ((y : Nat) : Int) < (gN P : Int))) = false) → post (some (vi ((-2)))) (S nw nx g, 78 + gn, c)) ∧ (((decide ((0 ≤ ((x : Nat) : Int) ∧ ((x : Nat) : Int) < (gN P : Int)) ∧ 0 ≤ ((y : Nat) : Int) ∧ ((y : Nat) : Int) < (gN P : Int))) = true) → (-2147483648 ≤ ((sd : Nat) : Int) ∧ ((sd : Nat) : Int) < 2147483648) ∧ ((((decide (((sd : Nat) : Int) = 0 ∨ ((sd : Nat) : Int) = 1)) = true) → (1 ≤ gN P) ∧ (SW G (j + 2) mX8_meet 30 [some (vr (0)), some (vi (((x : Nat) : Int))), some (vi (((y : Nat) : Int))), some (vi (((sd : Nat) : Int))), some (vi ((((gN P) - 1 : Nat) : Int)))] [] (S nw nx g, 78 + gn, c) B0 post)) ∧ (((decide (((sd : Nat) : Int) = 0 ∨ ((sd : Nat) : Int) = 1)) = false) → post (some (vi ((-2)))) (S nw nx g, 78 + gn, c)))))) :
    SW G (j + 2) mX8_meet 0 [some (vr (0)), some (vi (((x : Nat) : Int))), some (vi (((y : Nat) : Int))), some (vi (((sd : Nat) : Int))), none] [] (S nw nx g, 78 + gn, c) B0 post := by
  refine sw_aload_n (dX8_meet.at 0 rfl) rfl rfl ?_
  refine sw_iload_n (dX8_meet.at 1 rfl) rfl rfl ?_
  refine sw_iload_n (dX8_meet.at 2 rfl) rfl rfl ?_
  refine sw_callV (B' := B0) (As := [vi (((x : Nat) : Int)), vi (((y : Nat) : Int))]) (mc := 0) (ms := 0) (dX8_meet.at 3 rfl) lk_X8_157 (S_lt 0 (by decide)) (S_0 nw nx g) rfl rfl (Nat.le_of_ble_eq_true rfl) rfl (Nat.le_refl _) (Nat.le_refl _) ?_
  refine c_X8_arePair (x := ((x : Nat) : Int)) (y := ((y : Nat) : Int)) (j := j + 0) hnw hE hV hv.1 hv.2.1 ?_
  replace hv := hv.2.2
  refine sw_if_eq (tgt := 16) (dX8_meet.at 4 rfl) (by decide) (bz_rng _) (fun q => ?_) (fun q => ?_)
  · replace hv := hv.1 (bz_0 q)
    refine sw_bipush (dX8_meet.at 8 rfl) (by decide) ?_
    exact sw_iret (dX8_meet.at 9 rfl) rfl (Nat.le_refl _) (Nat.le_refl _) hv
  · replace hv := hv.2 (bz_n0 q)
    refine sw_iload_n (dX8_meet.at 5 rfl) rfl rfl ?_
    refine sw_callS (post' := post) (B' := B0) (As := [vi (((sd : Nat) : Int))]) (mc := 0) (ms := 0) (dX8_meet.at 6 rfl) lk_X8_167 rfl rfl (Nat.le_of_ble_eq_true rfl) rfl (Nat.le_refl _) (Nat.le_refl _) ?_
    refine c_X8_isSide (x := ((sd : Nat) : Int)) (j := j + 1) hv.1 ?_
    replace hv := hv.2
    refine sw_if_ne (tgt := 19) (dX8_meet.at 7 rfl) (by decide) (bz_rng _) (fun q => ?_) (fun q => ?_)
    · replace hv := hv.1 (bz_1 q)
      refine sw_aload_n (dX8_meet.at 10 rfl) rfl rfl ?_
      refine sw_getR (dX8_meet.at 11 rfl) fp_X8_65 (S_lt 0 (by decide)) (S_0 nw nx g) rfl rfl ?_
      refine sw_getIE (w := ((gN P : Nat) : Int)) (dX8_meet.at 12 rfl) fp_X8_103 (S_e_lt hnw) (S_e hnw) rfl (EL_N hE) ?_
      refine sw_iconst (dX8_meet.at 13 rfl) ?_
      refine sw_isub (dX8_meet.at 14 rfl) ?_
      refine sw_topI (y := (((gN P) - 1 : Nat) : Int)) (congrArg _ (Int.ofNat_sub hv.1).symm) ?_
      replace hv := hv.2
      refine sw_istore (lo' := [some (vr (0)), some (vi (((x : Nat) : Int))), some (vi (((y : Nat) : Int))), some (vi (((sd : Nat) : Int))), some (vi ((((gN P) - 1 : Nat) : Int)))]) (dX8_meet.at 15 rfl) (by decide) rfl ?_
      exact hv
    · replace hv := hv.2 (bz_n1 q)
      refine sw_bipush (dX8_meet.at 8 rfl) (by decide) ?_
      exact sw_iret (dX8_meet.at 9 rfl) rfl (Nat.le_refl _) (Nat.le_refl _) hv

set_option maxHeartbeats 2000000 in
set_option maxRecDepth 20000 in
theorem g_X8_meet_0 {G : GG} {j nw nx gn : Nat} {g : Nat → Sh} {c : Nat → Nat → Int} {post : Option AV → AM → Prop} {x : Int} {y : Int} {sd : Int} {P : GD} (hnw : nw = 21 ∨ nw = 35) (hE : EL c nw P) (hV : GV P)  (hv : (-2147483648 ≤ x ∧ x < 2147483648) ∧ (-2147483648 ≤ y ∧ y < 2147483648) ∧ ((((decide ((0 ≤ x ∧ x < (gN P : Int)) ∧ 0 ≤ y ∧ y < (gN P : Int))) = false) → post (some (vi ((-2)))) (S nw nx g, 78 + gn, c)) ∧ (((decide ((0 ≤ x ∧ x < (gN P : Int)) ∧ 0 ≤ y ∧ y < (gN P : Int))) = true) → (-2147483648 ≤ sd ∧ sd < 2147483648) ∧ ((((decide (sd = 0 ∨ sd = 1)) = true) → SW G (j + 2) mX8_meet 30 [some (vr (0)), some (vi (x)), some (vi (y)), some (vi (sd)), some (vi (((gN P : Nat) : Int) - 1))] [] (S nw nx g, 78 + gn, c) B0 post) ∧ (((decide (sd = 0 ∨ sd = 1)) = false) → post (some (vi ((-2)))) (S nw nx g, 78 + gn, c)))))) :
    SW G (j + 2) mX8_meet 0 [some (vr (0)), some (vi (x)), some (vi (y)), some (vi (sd)), none] [] (S nw nx g, 78 + gn, c) B0 post := by
  refine sw_aload_n (dX8_meet.at 0 rfl) rfl rfl ?_
  refine sw_iload_n (dX8_meet.at 1 rfl) rfl rfl ?_
  refine sw_iload_n (dX8_meet.at 2 rfl) rfl rfl ?_
  refine sw_callV (B' := B0) (As := [vi (x), vi (y)]) (mc := 0) (ms := 0) (dX8_meet.at 3 rfl) lk_X8_157 (S_lt 0 (by decide)) (S_0 nw nx g) rfl rfl (Nat.le_of_ble_eq_true rfl) rfl (Nat.le_refl _) (Nat.le_refl _) ?_
  refine c_X8_arePair (x := x) (y := y) (j := j + 0) hnw hE hV hv.1 hv.2.1 ?_
  replace hv := hv.2.2
  refine sw_if_eq (tgt := 16) (dX8_meet.at 4 rfl) (by decide) (bz_rng _) (fun q => ?_) (fun q => ?_)
  · replace hv := hv.1 (bz_0 q)
    refine sw_bipush (dX8_meet.at 8 rfl) (by decide) ?_
    exact sw_iret (dX8_meet.at 9 rfl) rfl (Nat.le_refl _) (Nat.le_refl _) hv
  · replace hv := hv.2 (bz_n0 q)
    refine sw_iload_n (dX8_meet.at 5 rfl) rfl rfl ?_
    refine sw_callS (post' := post) (B' := B0) (As := [vi (sd)]) (mc := 0) (ms := 0) (dX8_meet.at 6 rfl) lk_X8_167 rfl rfl (Nat.le_of_ble_eq_true rfl) rfl (Nat.le_refl _) (Nat.le_refl _) ?_
    refine c_X8_isSide (x := sd) (j := j + 1) hv.1 ?_
    replace hv := hv.2
    refine sw_if_ne (tgt := 19) (dX8_meet.at 7 rfl) (by decide) (bz_rng _) (fun q => ?_) (fun q => ?_)
    · replace hv := hv.1 (bz_1 q)
      refine sw_aload_n (dX8_meet.at 10 rfl) rfl rfl ?_
      refine sw_getR (dX8_meet.at 11 rfl) fp_X8_65 (S_lt 0 (by decide)) (S_0 nw nx g) rfl rfl ?_
      refine sw_getIE (w := ((gN P : Nat) : Int)) (dX8_meet.at 12 rfl) fp_X8_103 (S_e_lt hnw) (S_e hnw) rfl (EL_N hE) ?_
      refine sw_iconst (dX8_meet.at 13 rfl) ?_
      refine sw_isub (dX8_meet.at 14 rfl) ?_
      refine sw_istore (lo' := [some (vr (0)), some (vi (x)), some (vi (y)), some (vi (sd)), some (vi (((gN P : Nat) : Int) - 1))]) (dX8_meet.at 15 rfl) (by decide) rfl ?_
      exact hv
    · replace hv := hv.2 (bz_n1 q)
      refine sw_bipush (dX8_meet.at 8 rfl) (by decide) ?_
      exact sw_iret (dX8_meet.at 9 rfl) rfl (Nat.le_refl _) (Nat.le_refl _) hv

set_option maxHeartbeats 4000000 in
theorem c_X8_meet {G : GG} {j nw nx gn : Nat} {g : Nat → Sh} {c : Nat → Nat → Int} {post : Option AV → AM → Prop} {P : GD} {x y sd : Int} (hnw : nw = 21 ∨ nw = 35) (hE : EL c nw P) (hV : GV P) (p1 : -2147483648 ≤ x ∧ x < 2147483648) (p2 : -2147483648 ≤ y ∧ y < 2147483648) (p3 : -2147483648 ≤ sd ∧ sd < 2147483648) (K : post (some (vi (q_meet P x y sd))) (S nw nx g, 78 + gn, c)) : SM G (j + 3) mX8_meet [vr (0), vi (x), vi (y), vi (sd)] (S nw nx g, 78 + gn, c) 0 0 post := by
  refine sm_of wX8_meet rfl (Nat.le_of_ble_eq_true rfl) ?_
  have hN60 := GV_N hV
  have hR5 := GV_R hV
  by_cases hv : ((0 ≤ x ∧ x < (gN P : Int)) ∧ 0 ≤ y ∧ y < (gN P : Int)) ∧ 0 ≤ sd ∧ sd < 2
  · obtain ⟨x, rfl⟩ : ∃ n : Nat, x = (n : Int) := ⟨x.toNat, by omega⟩
    obtain ⟨y, rfl⟩ : ∃ n : Nat, y = (n : Int) := ⟨y.toNat, by omega⟩
    obtain ⟨sd, rfl⟩ : ∃ n : Nat, sd = (n : Int) := ⟨sd.toNat, by omega⟩
    have e : q_meet P ((x : Nat) : Int) ((y : Nat) : Int) ((sd : Nat) : Int) = ((meetF P x y sd (gN P - 1) : Nat) : Int) := by
      rw [q_meet, if_pos hv]
      simp only [Int.toNat_natCast]
    rw [e] at K
    have K1 : ∀ z : Int, z = (((meetF P x y sd (gN P - 1) : Nat) : Int)) → post (some (vi z)) (S nw nx g, 78 + gn, c) := fun z h => h ▸ K
    have hx : x < gN P := by omega
    have fx := hV.2.2.1 x hx
    have hy : y < gN P := by omega
    have fy := hV.2.2.1 y hy
    refine g_X8_meet_0n hnw hE hV ?_
    refine ⟨?_, ?_, ⟨fun q => ?_, fun q => ⟨?_, ⟨fun q => ⟨?_, ?_⟩, fun q => ?_⟩⟩⟩⟩
    all_goals first | exact lp_X8_meet_30 hnw hE hV hx hy (by omega) (gN P - 1) (by omega) K | omega | assumption | (exfalso; simp only [decide_eq_true_eq, decide_eq_false_iff_not] at *; omega)
  · have e : q_meet P x y sd = (-2) := by rw [q_meet, if_neg hv]
    rw [e] at K
    refine g_X8_meet_0 hnw hE hV ?_
    refine ⟨?_, ?_, ⟨fun q => ?_, fun q => ⟨?_, ⟨fun q => ?_, fun q => ?_⟩⟩⟩⟩
    all_goals first | exact K | omega | assumption | (exfalso; simp only [decide_eq_true_eq, decide_eq_false_iff_not] at *; omega)

set_option maxHeartbeats 2000000 in
set_option maxRecDepth 20000 in
theorem g_X8_join_22 {G : GG} {j nw nx gn : Nat} {g : Nat → Sh} {c : Nat → Nat → Int} {post : Option AV → AM → Prop} {x : Nat} {y : Nat} {sd : Nat} {P : GD} {z : Nat} (hnw : nw = 21 ∨ nw = 35) (hE : EL c nw P) (hV : GV P)  (hv : (1 ≤ gN P) ∧ ((z < 2147483648) ∧ ((gN P) - 1 < 2147483648) ∧ ((((gN P) - 1 ≤ z) → (1 ≤ gN P) ∧ (post (some (vi ((((gN P) - 1 : Nat) : Int)))) (S nw nx g, 78 + gn, c))) ∧ ((¬ ((gN P) - 1 ≤ z)) → (x < gN P) ∧ (z < gN P) ∧ (sd < 2) ∧ ((((gWk P x z sd) = false) → SW G (j + 2) mX8_join 22 [some (vr (0)), some (vi (((x : Nat) : Int))), some (vi (((y : Nat) : Int))), some (vi (((sd : Nat) : Int))), some (vi (((z + 1 : Nat) : Int)))] [] (S nw nx g, 78 + gn, c) B0 post) ∧ (((gWk P x z sd) = true) → (y < gN P) ∧ (z < gN P) ∧ (sd < 2) ∧ ((((gWk P y z sd) = false) → SW G (j + 2) mX8_join 22 [some (vr (0)), some (vi (((x : Nat) : Int))), some (vi (((y : Nat) : Int))), some (vi (((sd : Nat) : Int))), some (vi (((z + 1 : Nat) : Int)))] [] (S nw nx g, 78 + gn, c) B0 post) ∧ (((gWk P y z sd) = true) → post (some (vi (((z : Nat) : Int)))) (S nw nx g, 78 + gn, c))))))))) :
    SW G (j + 2) mX8_join 22 [some (vr (0)), some (vi (((x : Nat) : Int))), some (vi (((y : Nat) : Int))), some (vi (((sd : Nat) : Int))), some (vi (((z : Nat) : Int)))] [] (S nw nx g, 78 + gn, c) B0 post := by
  refine sw_iload (dX8_join.at 12 rfl) rfl ?_
  refine sw_aload_n (dX8_join.at 13 rfl) rfl rfl ?_
  refine sw_getR (dX8_join.at 14 rfl) fp_X8_65 (S_lt 0 (by decide)) (S_0 nw nx g) rfl rfl ?_
  refine sw_getIE (w := ((gN P : Nat) : Int)) (dX8_join.at 15 rfl) fp_X8_103 (S_e_lt hnw) (S_e hnw) rfl (EL_N hE) ?_
  refine sw_iconst (dX8_join.at 16 rfl) ?_
  refine sw_isub (dX8_join.at 17 rfl) ?_
  refine sw_topI (y := (((gN P) - 1 : Nat) : Int)) (congrArg _ (Int.ofNat_sub hv.1).symm) ?_
  replace hv := hv.2
  refine sw_icmpN_ge z ((gN P) - 1) (tgt := 73) (dX8_join.at 18 rfl) (by decide) hv.1 hv.2.1 (fun q => ?_) (fun q => ?_)
  · replace hv := hv.2.2.1 q
    refine sw_aload_n (dX8_join.at 37 rfl) rfl rfl ?_
    refine sw_getR (dX8_join.at 38 rfl) fp_X8_65 (S_lt 0 (by decide)) (S_0 nw nx g) rfl rfl ?_
    refine sw_getIE (w := ((gN P : Nat) : Int)) (dX8_join.at 39 rfl) fp_X8_103 (S_e_lt hnw) (S_e hnw) rfl (EL_N hE) ?_
    refine sw_iconst (dX8_join.at 40 rfl) ?_
    refine sw_isub (dX8_join.at 41 rfl) ?_
    refine sw_topI (y := (((gN P) - 1 : Nat) : Int)) (congrArg _ (Int.ofNat_sub hv.1).symm) ?_
    replace hv := hv.2
    exact sw_iret (dX8_join.at 42 rfl) rfl (Nat.le_refl _) (Nat.le_refl _) hv
  · replace hv := hv.2.2.2 q
    refine sw_aload_n (dX8_join.at 19 rfl) rfl rfl ?_
    refine sw_getR (dX8_join.at 20 rfl) fp_X8_65 (S_lt 0 (by decide)) (S_0 nw nx g) rfl rfl ?_
    refine sw_iload_n (dX8_join.at 21 rfl) rfl rfl ?_
    refine sw_iload (dX8_join.at 22 rfl) rfl ?_
    refine sw_iload_n (dX8_join.at 23 rfl) rfl rfl ?_
    refine sw_callV (B' := B0) (As := [vi (((x : Nat) : Int)), vi (((z : Nat) : Int)), vi (((sd : Nat) : Int))]) (mc := 0) (ms := 0) (dX8_join.at 24 rfl) lk_X8_275 (S_e_lt hnw) (S_e hnw) rfl rfl (Nat.le_of_ble_eq_true rfl) rfl (Nat.le_refl _) (Nat.le_refl _) ?_
    refine c_X1_isWeaklyBelow (e := nw) (v := x) (w := z) (sd := sd) (j := j + 0) hnw hE hV hv.1 hv.2.1 hv.2.2.1 ?_
    replace hv := hv.2.2.2
    refine sw_if_eq (tgt := 67) (dX8_join.at 25 rfl) (by decide) (bz_rng _) (fun q => ?_) (fun q => ?_)
    · replace hv := hv.1 (bz_0 q)
      refine sw_iinc (lo' := [some (vr (0)), some (vi (((x : Nat) : Int))), some (vi (((y : Nat) : Int))), some (vi (((sd : Nat) : Int))), some (vi (((z + 1 : Nat) : Int)))]) (dX8_join.at 35 rfl) rfl (by decide) rfl ?_
      refine sw_goto (tgt := 22) (dX8_join.at 36 rfl) (by decide) ?_
      exact hv
    · replace hv := hv.2 (bz_n0 q)
      refine sw_aload_n (dX8_join.at 26 rfl) rfl rfl ?_
      refine sw_getR (dX8_join.at 27 rfl) fp_X8_65 (S_lt 0 (by decide)) (S_0 nw nx g) rfl rfl ?_
      refine sw_iload_n (dX8_join.at 28 rfl) rfl rfl ?_
      refine sw_iload (dX8_join.at 29 rfl) rfl ?_
      refine sw_iload_n (dX8_join.at 30 rfl) rfl rfl ?_
      refine sw_callV (B' := B0) (As := [vi (((y : Nat) : Int)), vi (((z : Nat) : Int)), vi (((sd : Nat) : Int))]) (mc := 0) (ms := 0) (dX8_join.at 31 rfl) lk_X8_275 (S_e_lt hnw) (S_e hnw) rfl rfl (Nat.le_of_ble_eq_true rfl) rfl (Nat.le_refl _) (Nat.le_refl _) ?_
      refine c_X1_isWeaklyBelow (e := nw) (v := y) (w := z) (sd := sd) (j := j + 0) hnw hE hV hv.1 hv.2.1 hv.2.2.1 ?_
      replace hv := hv.2.2.2
      refine sw_if_eq (tgt := 67) (dX8_join.at 32 rfl) (by decide) (bz_rng _) (fun q => ?_) (fun q => ?_)
      · replace hv := hv.1 (bz_0 q)
        refine sw_iinc (lo' := [some (vr (0)), some (vi (((x : Nat) : Int))), some (vi (((y : Nat) : Int))), some (vi (((sd : Nat) : Int))), some (vi (((z + 1 : Nat) : Int)))]) (dX8_join.at 35 rfl) rfl (by decide) rfl ?_
        refine sw_goto (tgt := 22) (dX8_join.at 36 rfl) (by decide) ?_
        exact hv
      · replace hv := hv.2 (bz_n0 q)
        refine sw_iload (dX8_join.at 33 rfl) rfl ?_
        exact sw_iret (dX8_join.at 34 rfl) rfl (Nat.le_refl _) (Nat.le_refl _) hv

set_option maxHeartbeats 2000000 in
theorem lp_X8_join_22 {G : GG} {j nw nx gn : Nat} {g : Nat → Sh} {c : Nat → Nat → Int} {post : Option AV → AM → Prop} {P : GD} {x : Nat} {y : Nat} {sd : Nat} (hnw : nw = 21 ∨ nw = 35) (hE : EL c nw P) (hV : GV P) (hx0 : x < gN P) (hy0 : y < gN P) (hsd : sd < 2) : ∀ k z : Nat, z + k = gN P - 1 → post (some (vi (((joinF P x y sd k z : Nat) : Int)))) (S nw nx g, 78 + gn, c) → SW G (j + 2) mX8_join 22 [some (vr (0)), some (vi (((x : Nat) : Int))), some (vi (((y : Nat) : Int))), some (vi (((sd : Nat) : Int))), some (vi (((z : Nat) : Int)))] [] (S nw nx g, 78 + gn, c) B0 post := by
  intro k
  induction k with
  | zero =>
    intro z hx K
    refine g_X8_join_22 hnw hE hV ?_
    have := GV_N hV
    have hz : z = gN P - 1 := by omega
    simp only [joinF] at K
    subst hz
    refine ⟨?_, ⟨?_, ?_, ⟨fun q => ⟨?_, ?_⟩, fun q => ⟨?_, ?_, ?_, ⟨fun q => ?_, fun q => ⟨?_, ?_, ?_, ⟨fun q => ?_, fun q => ?_⟩⟩⟩⟩⟩⟩⟩
    all_goals first | exact K | omega | (exfalso; omega)
  | succ k ih =>
    intro z hx K
    refine g_X8_join_22 hnw hE hV ?_
    have := GV_N hV
    simp only [joinF, pJo] at K
    refine ⟨?_, ⟨?_, ?_, ⟨fun q => ⟨?_, ?_⟩, fun q => ⟨?_, ?_, ?_, ⟨fun q => ?_, fun q => ⟨?_, ?_, ?_, ⟨fun q => ?_, fun q => ?_⟩⟩⟩⟩⟩⟩⟩
    all_goals first | omega | (exfalso; omega) | assumption | (simp only [*, if_true, if_false, ite_true, ite_false, Bool.false_eq_true, and_true, true_and, and_false, false_and, Bool.and_true, Bool.and_false, Bool.true_and, Bool.false_and, decide_true, decide_false, eq_self] at K; exact K) | (simp only [*, if_true, if_false, ite_true, ite_false, Bool.false_eq_true, and_true, true_and, and_false, false_and, Bool.and_true, Bool.and_false, Bool.true_and, Bool.false_and, decide_true, decide_false, eq_self] at K; exact ih _  (by omega) K)

def q_join (P : GD) (x y sd : Int) : Int := if ((0 ≤ x ∧ x < (gN P : Int)) ∧ 0 ≤ y ∧ y < (gN P : Int)) ∧ 0 ≤ sd ∧ sd < 2 then ((joinF P x.toNat y.toNat sd.toNat (gN P - 1) 0 : Nat) : Int) else (-2)
set_option maxHeartbeats 2000000 in
set_option maxRecDepth 20000 in
theorem g_X8_join_0n {G : GG} {j nw nx gn : Nat} {g : Nat → Sh} {c : Nat → Nat → Int} {post : Option AV → AM → Prop} {x : Nat} {y : Nat} {sd : Nat} {P : GD} (hnw : nw = 21 ∨ nw = 35) (hE : EL c nw P) (hV : GV P)  (hv : (-2147483648 ≤ ((x : Nat) : Int) ∧ ((x : Nat) : Int) < 2147483648) ∧ (-2147483648 ≤ ((y : Nat) : Int) ∧ ((y : Nat) : Int) < 2147483648) ∧ ((((decide ((0 ≤ ((x : Nat) : Int) ∧ ((x : Nat) : Int) < (gN P : Int)) ∧ 0 ≤ ((y : Nat) : Int) ∧ ((y : Nat) : Int) < (gN P : Int))) = false) → post (some (vi ((-2)))) (S nw nx g, 78 + gn, c)) ∧ (((decide ((0 ≤ ((x : Nat) : Int) ∧ ((x : Nat) : Int) < (gN P : Int)) ∧ 0 ≤ ((y : Nat) : Int) ∧ ((y : Nat) : Int) < (gN P : Int))) = true) → (-2147483648 ≤ ((sd : Nat) : Int) ∧ ((sd : Nat) : Int) < 2147483648) ∧ ((((decide (((sd : Nat) : Int) = 0 ∨ ((sd : Nat) : Int) = 1)) = true) → SW G (j + 2) mX8_join 22 [some (vr (0)), some (vi (((x : Nat) : Int))), some (vi (((y : Nat) : Int))), some (vi (((sd : Nat) : Int))), some (vi (0))] [] (S nw nx g, 78 + gn, c) B0 post) ∧ (((decide (((sd : Nat) : Int) = 0 ∨ ((sd : Nat) : Int) = 1)) = false) → post (some (vi ((-2)))) (S nw nx g, 78 + gn, c)))))) :
    SW G (j + 2) mX8_join 0 [some (vr (0)), some (vi (((x : Nat) : Int))), some (vi (((y : Nat) : Int))), some (vi (((sd : Nat) : Int))), none] [] (S nw nx g, 78 + gn, c) B0 post := by
  refine sw_aload_n (dX8_join.at 0 rfl) rfl rfl ?_
  refine sw_iload_n (dX8_join.at 1 rfl) rfl rfl ?_
  refine sw_iload_n (dX8_join.at 2 rfl) rfl rfl ?_
  refine sw_callV (B' := B0) (As := [vi (((x : Nat) : Int)), vi (((y : Nat) : Int))]) (mc := 0) (ms := 0) (dX8_join.at 3 rfl) lk_X8_157 (S_lt 0 (by decide)) (S_0 nw nx g) rfl rfl (Nat.le_of_ble_eq_true rfl) rfl (Nat.le_refl _) (Nat.le_refl _) ?_
  refine c_X8_arePair (x := ((x : Nat) : Int)) (y := ((y : Nat) : Int)) (j := j + 0) hnw hE hV hv.1 hv.2.1 ?_
  replace hv := hv.2.2
  refine sw_if_eq (tgt := 16) (dX8_join.at 4 rfl) (by decide) (bz_rng _) (fun q => ?_) (fun q => ?_)
  · replace hv := hv.1 (bz_0 q)
    refine sw_bipush (dX8_join.at 8 rfl) (by decide) ?_
    exact sw_iret (dX8_join.at 9 rfl) rfl (Nat.le_refl _) (Nat.le_refl _) hv
  · replace hv := hv.2 (bz_n0 q)
    refine sw_iload_n (dX8_join.at 5 rfl) rfl rfl ?_
    refine sw_callS (post' := post) (B' := B0) (As := [vi (((sd : Nat) : Int))]) (mc := 0) (ms := 0) (dX8_join.at 6 rfl) lk_X8_167 rfl rfl (Nat.le_of_ble_eq_true rfl) rfl (Nat.le_refl _) (Nat.le_refl _) ?_
    refine c_X8_isSide (x := ((sd : Nat) : Int)) (j := j + 1) hv.1 ?_
    replace hv := hv.2
    refine sw_if_ne (tgt := 19) (dX8_join.at 7 rfl) (by decide) (bz_rng _) (fun q => ?_) (fun q => ?_)
    · replace hv := hv.1 (bz_1 q)
      refine sw_iconst (dX8_join.at 10 rfl) ?_
      refine sw_istore (lo' := [some (vr (0)), some (vi (((x : Nat) : Int))), some (vi (((y : Nat) : Int))), some (vi (((sd : Nat) : Int))), some (vi (0))]) (dX8_join.at 11 rfl) (by decide) rfl ?_
      exact hv
    · replace hv := hv.2 (bz_n1 q)
      refine sw_bipush (dX8_join.at 8 rfl) (by decide) ?_
      exact sw_iret (dX8_join.at 9 rfl) rfl (Nat.le_refl _) (Nat.le_refl _) hv

set_option maxHeartbeats 2000000 in
set_option maxRecDepth 20000 in
theorem g_X8_join_0 {G : GG} {j nw nx gn : Nat} {g : Nat → Sh} {c : Nat → Nat → Int} {post : Option AV → AM → Prop} {x : Int} {y : Int} {sd : Int} {P : GD} (hnw : nw = 21 ∨ nw = 35) (hE : EL c nw P) (hV : GV P)  (hv : (-2147483648 ≤ x ∧ x < 2147483648) ∧ (-2147483648 ≤ y ∧ y < 2147483648) ∧ ((((decide ((0 ≤ x ∧ x < (gN P : Int)) ∧ 0 ≤ y ∧ y < (gN P : Int))) = false) → post (some (vi ((-2)))) (S nw nx g, 78 + gn, c)) ∧ (((decide ((0 ≤ x ∧ x < (gN P : Int)) ∧ 0 ≤ y ∧ y < (gN P : Int))) = true) → (-2147483648 ≤ sd ∧ sd < 2147483648) ∧ ((((decide (sd = 0 ∨ sd = 1)) = true) → SW G (j + 2) mX8_join 22 [some (vr (0)), some (vi (x)), some (vi (y)), some (vi (sd)), some (vi (0))] [] (S nw nx g, 78 + gn, c) B0 post) ∧ (((decide (sd = 0 ∨ sd = 1)) = false) → post (some (vi ((-2)))) (S nw nx g, 78 + gn, c)))))) :
    SW G (j + 2) mX8_join 0 [some (vr (0)), some (vi (x)), some (vi (y)), some (vi (sd)), none] [] (S nw nx g, 78 + gn, c) B0 post := by
  refine sw_aload_n (dX8_join.at 0 rfl) rfl rfl ?_
  refine sw_iload_n (dX8_join.at 1 rfl) rfl rfl ?_
  refine sw_iload_n (dX8_join.at 2 rfl) rfl rfl ?_
  refine sw_callV (B' := B0) (As := [vi (x), vi (y)]) (mc := 0) (ms := 0) (dX8_join.at 3 rfl) lk_X8_157 (S_lt 0 (by decide)) (S_0 nw nx g) rfl rfl (Nat.le_of_ble_eq_true rfl) rfl (Nat.le_refl _) (Nat.le_refl _) ?_
  refine c_X8_arePair (x := x) (y := y) (j := j + 0) hnw hE hV hv.1 hv.2.1 ?_
  replace hv := hv.2.2
  refine sw_if_eq (tgt := 16) (dX8_join.at 4 rfl) (by decide) (bz_rng _) (fun q => ?_) (fun q => ?_)
  · replace hv := hv.1 (bz_0 q)
    refine sw_bipush (dX8_join.at 8 rfl) (by decide) ?_
    exact sw_iret (dX8_join.at 9 rfl) rfl (Nat.le_refl _) (Nat.le_refl _) hv
  · replace hv := hv.2 (bz_n0 q)
    refine sw_iload_n (dX8_join.at 5 rfl) rfl rfl ?_
    refine sw_callS (post' := post) (B' := B0) (As := [vi (sd)]) (mc := 0) (ms := 0) (dX8_join.at 6 rfl) lk_X8_167 rfl rfl (Nat.le_of_ble_eq_true rfl) rfl (Nat.le_refl _) (Nat.le_refl _) ?_
    refine c_X8_isSide (x := sd) (j := j + 1) hv.1 ?_
    replace hv := hv.2
    refine sw_if_ne (tgt := 19) (dX8_join.at 7 rfl) (by decide) (bz_rng _) (fun q => ?_) (fun q => ?_)
    · replace hv := hv.1 (bz_1 q)
      refine sw_iconst (dX8_join.at 10 rfl) ?_
      refine sw_istore (lo' := [some (vr (0)), some (vi (x)), some (vi (y)), some (vi (sd)), some (vi (0))]) (dX8_join.at 11 rfl) (by decide) rfl ?_
      exact hv
    · replace hv := hv.2 (bz_n1 q)
      refine sw_bipush (dX8_join.at 8 rfl) (by decide) ?_
      exact sw_iret (dX8_join.at 9 rfl) rfl (Nat.le_refl _) (Nat.le_refl _) hv

set_option maxHeartbeats 4000000 in
theorem c_X8_join {G : GG} {j nw nx gn : Nat} {g : Nat → Sh} {c : Nat → Nat → Int} {post : Option AV → AM → Prop} {P : GD} {x y sd : Int} (hnw : nw = 21 ∨ nw = 35) (hE : EL c nw P) (hV : GV P) (p1 : -2147483648 ≤ x ∧ x < 2147483648) (p2 : -2147483648 ≤ y ∧ y < 2147483648) (p3 : -2147483648 ≤ sd ∧ sd < 2147483648) (K : post (some (vi (q_join P x y sd))) (S nw nx g, 78 + gn, c)) : SM G (j + 3) mX8_join [vr (0), vi (x), vi (y), vi (sd)] (S nw nx g, 78 + gn, c) 0 0 post := by
  refine sm_of wX8_join rfl (Nat.le_of_ble_eq_true rfl) ?_
  have hN60 := GV_N hV
  have hR5 := GV_R hV
  by_cases hv : ((0 ≤ x ∧ x < (gN P : Int)) ∧ 0 ≤ y ∧ y < (gN P : Int)) ∧ 0 ≤ sd ∧ sd < 2
  · obtain ⟨x, rfl⟩ : ∃ n : Nat, x = (n : Int) := ⟨x.toNat, by omega⟩
    obtain ⟨y, rfl⟩ : ∃ n : Nat, y = (n : Int) := ⟨y.toNat, by omega⟩
    obtain ⟨sd, rfl⟩ : ∃ n : Nat, sd = (n : Int) := ⟨sd.toNat, by omega⟩
    have e : q_join P ((x : Nat) : Int) ((y : Nat) : Int) ((sd : Nat) : Int) = ((joinF P x y sd (gN P - 1) 0 : Nat) : Int) := by
      rw [q_join, if_pos hv]
      simp only [Int.toNat_natCast]
    rw [e] at K
    have K1 : ∀ z : Int, z = (((joinF P x y sd (gN P - 1) 0 : Nat) : Int)) → post (some (vi z)) (S nw nx g, 78 + gn, c) := fun z h => h ▸ K
    have hx : x < gN P := by omega
    have fx := hV.2.2.1 x hx
    have hy : y < gN P := by omega
    have fy := hV.2.2.1 y hy
    refine g_X8_join_0n hnw hE hV ?_
    refine ⟨?_, ?_, ⟨fun q => ?_, fun q => ⟨?_, ⟨fun q => ?_, fun q => ?_⟩⟩⟩⟩
    all_goals first | exact lp_X8_join_22 hnw hE hV hx hy (by omega) (gN P - 1) 0 (by omega) K | omega | assumption | (exfalso; simp only [decide_eq_true_eq, decide_eq_false_iff_not] at *; omega)
  · have e : q_join P x y sd = (-2) := by rw [q_join, if_neg hv]
    rw [e] at K
    refine g_X8_join_0 hnw hE hV ?_
    refine ⟨?_, ?_, ⟨fun q => ?_, fun q => ⟨?_, ⟨fun q => ?_, fun q => ?_⟩⟩⟩⟩
    all_goals first | exact K | omega | assumption | (exfalso; simp only [decide_eq_true_eq, decide_eq_false_iff_not] at *; omega)

