set_option maxHeartbeats 2000000 in
set_option maxRecDepth 20000 in
theorem g_X4_number_0 {G : GG} {j nw nx gn : Nat} {g : Nat → Sh} {c : Nat → Nat → Int} {post : Option AV → AM → Prop} {v : Nat} {w : Nat} {k : Nat}  (hv : (k < 2147483648) ∧ (((((k : Nat) : Int) < 0) → post (some (vi (0))) (S nw nx g, 78 + gn, c)) ∧ ((¬ (((k : Nat) : Int) < 0)) → (k < 2147483648) ∧ (((8 ≤ k) → post (some (vi (0))) (S nw nx g, 78 + gn, c)) ∧ ((¬ (8 ≤ k)) → ((((v * 60) + w) * 8) + k < 28800) ∧ (post (some (vi (c 6 ((((v * 60) + w) * 8) + k)))) (S nw nx g, 78 + gn, c))))))) :
    SW G (j + 0) mX4_number 0 [some (vr (5)), some (vi (((v : Nat) : Int))), some (vi (((w : Nat) : Int))), some (vi (((k : Nat) : Int)))] [] (S nw nx g, 78 + gn, c) B0 post := by
  refine sw_iload_n (dX4_number.at 0 rfl) rfl rfl ?_
  refine sw_if_lt (tgt := 29) (dX4_number.at 1 rfl) (by decide) (nrng hv.1) (fun q => ?_) (fun q => ?_)
  · replace hv := hv.2.1 q
    refine sw_iconst (dX4_number.at 18 rfl) ?_
    exact sw_iret (dX4_number.at 19 rfl) rfl (Nat.le_refl _) (Nat.le_refl _) hv
  · replace hv := hv.2.2 q
    refine sw_iload_n (dX4_number.at 2 rfl) rfl rfl ?_
    refine sw_bipush (dX4_number.at 3 rfl) (by decide) ?_
    refine sw_icmpN_ge k 8 (tgt := 29) (dX4_number.at 4 rfl) (by decide) hv.1 (by decide) (fun q => ?_) (fun q => ?_)
    · replace hv := hv.2.1 q
      refine sw_iconst (dX4_number.at 18 rfl) ?_
      exact sw_iret (dX4_number.at 19 rfl) rfl (Nat.le_refl _) (Nat.le_refl _) hv
    · replace hv := hv.2.2 q
      refine sw_aload_n (dX4_number.at 5 rfl) rfl rfl ?_
      refine sw_getR (dX4_number.at 6 rfl) fp_X4_9 (S_lt 5 (by decide)) (S_5 nw nx g) rfl rfl ?_
      refine sw_iload_n (dX4_number.at 7 rfl) rfl rfl ?_
      refine sw_bipush (dX4_number.at 8 rfl) (by decide) ?_
      refine sw_imul (dX4_number.at 9 rfl) ?_
      refine sw_topI (y := ((v * 60 : Nat) : Int)) (by first | rfl | (congr 1)) ?_
      refine sw_iload_n (dX4_number.at 10 rfl) rfl rfl ?_
      refine sw_iadd (dX4_number.at 11 rfl) ?_
      refine sw_topI (y := (((v * 60) + w : Nat) : Int)) (by first | rfl | (congr 1)) ?_
      refine sw_bipush (dX4_number.at 12 rfl) (by decide) ?_
      refine sw_imul (dX4_number.at 13 rfl) ?_
      refine sw_topI (y := ((((v * 60) + w) * 8 : Nat) : Int)) (by first | rfl | (congr 1)) ?_
      refine sw_iload_n (dX4_number.at 14 rfl) rfl rfl ?_
      refine sw_iadd (dX4_number.at 15 rfl) ?_
      refine sw_topI (y := (((((v * 60) + w) * 8) + k : Nat) : Int)) (by first | rfl | (congr 1)) ?_
      refine sw_ialdN ((((v * 60) + w) * 8) + k) (dX4_number.at 16 rfl) (S_lt 6 (by decide)) (S_6 nw nx g) (by decide) hv.1 rfl ?_
      replace hv := hv.2
      refine sw_goto (tgt := 30) (dX4_number.at 17 rfl) (by decide) ?_
      exact sw_iret (dX4_number.at 19 rfl) rfl (Nat.le_refl _) (Nat.le_refl _) hv

set_option maxHeartbeats 2000000 in
theorem c_X4_number {G : GG} {j nw nx gn : Nat} {g : Nat → Sh} {c : Nat → Nat → Int} {post : Option AV → AM → Prop} {v : Nat} {w : Nat} {k : Nat} (p1 : v < 60) (p2 : w < 60) (p3 : k < 2147483648) (K : post (some (vi ((if k < 8 then c 6 ((v * 60 + w) * 8 + k) else 0)))) (S nw nx g, 78 + gn, c)) : SM G (j + 1) mX4_number [vr (5), vi (((v : Nat) : Int)), vi (((w : Nat) : Int)), vi (((k : Nat) : Int))] (S nw nx g, 78 + gn, c) 0 0 post := by
  refine sm_of wX4_number rfl (Nat.le_of_ble_eq_true rfl) ?_
  refine g_X4_number_0  ?_
  refine ⟨?_, ⟨fun q => ?_, fun q => ⟨?_, ⟨fun q => ?_, fun q => ⟨?_, ?_⟩⟩⟩⟩⟩
  all_goals first | omega | (rw [if_pos (by omega)] at K; exact K) | (rw [if_neg (by omega)] at K; exact K)

/-- a place of the row grows by another, moved by t -/
def adS (f : Nat → Int) (p r t : Nat) (o : Int) (k : Nat) : Nat → Int := fun i => if p + k ≤ i ∧ i < p + 8 ∧ p + t ≤ i then f i + o * f (r + (i - p - t)) else f i
theorem adS_8 (f : Nat → Int) (p r t : Nat) (o : Int) : adS f p r t o 8 = f := by
  funext i
  rw [adS, if_neg (by omega)]
theorem adS_t (f : Nat → Int) (p r t : Nat) (o : Int) {k : Nat} (h : k ≤ t) : adS f p r t o k = adS f p r t o 0 := by
  funext i
  simp only [adS]
  by_cases e : p + t ≤ i
  · by_cases e2 : i < p + 8
    · rw [if_pos (by omega), if_pos (by omega)]
    · rw [if_neg (by omega), if_neg (by omega)]
  · rw [if_neg (by omega), if_neg (by omega)]
theorem adS_up (f : Nat → Int) {p r t : Nat} (o : Int) {k : Nat} (hk : k < 8) (ht : t ≤ k) (hd : r + 8 ≤ p ∨ p + 8 ≤ r) : u1 (adS f p r t o (k + 1)) (p + k) (adS f p r t o (k + 1) (p + k) + o * adS f p r t o (k + 1) (r + (k - t))) = adS f p r t o k := by
  funext i
  have e1 : adS f p r t o (k + 1) (p + k) = f (p + k) := by rw [adS, if_neg (by omega)]
  have e2 : adS f p r t o (k + 1) (r + (k - t)) = f (r + (k - t)) := by rw [adS, if_neg (by omega)]
  rw [e1, e2]
  by_cases e : i = p + k
  · subst e
    rw [u1_eq, adS, if_pos (by omega)]
    congr 3
    omega
  · rw [u1_ne e]
    simp only [adS]
    by_cases e3 : p + (k + 1) ≤ i ∧ i < p + 8 ∧ p + t ≤ i
    · rw [if_pos e3, if_pos (by omega)]
    · rw [if_neg e3, if_neg (by omega)]
set_option maxHeartbeats 2000000 in
set_option maxRecDepth 20000 in
theorem g_X4_add_15 {G : GG} {j nw nx gn : Nat} {g : Nat → Sh} {c : Nat → Nat → Int} {post : Option AV → AM → Prop} {v : Nat} {w : Nat} {x : Nat} {y : Nat} {t : Nat} {o : Int} {p : Nat} {k : Nat} {f : Nat → Int}  (hv : (k < 2147483648) ∧ (t < 2147483648) ∧ (((k < t) → post none (S nw nx g, 78 + gn, (wr c 6 f))) ∧ ((¬ (k < t)) → (p + k < 28800) ∧ ((t ≤ k) ∧ ((x < 60) ∧ (y < 60) ∧ ((k - t) < 2147483648) ∧ ((p + k < 28800) ∧ (SW G (j + 1) mX4_add 15 [some (vr (5)), some (vi (((v : Nat) : Int))), some (vi (((w : Nat) : Int))), some (vi (((x : Nat) : Int))), some (vi (((y : Nat) : Int))), some (vi (((t : Nat) : Int))), some (vi (o)), some (vi (((p : Nat) : Int))), some (vi (((k : Nat) : Int) + (-1)))] [] (S nw nx g, 78 + gn, (wr c 6 (u1 f (p + k) ((f (p + k)) + (o * (if (k - t) < 8 then (wr c 6 f) 6 ((x * 60 + y) * 8 + (k - t)) else 0)))))) B0 post))))))) :
    SW G (j + 1) mX4_add 15 [some (vr (5)), some (vi (((v : Nat) : Int))), some (vi (((w : Nat) : Int))), some (vi (((x : Nat) : Int))), some (vi (((y : Nat) : Int))), some (vi (((t : Nat) : Int))), some (vi (o)), some (vi (((p : Nat) : Int))), some (vi (((k : Nat) : Int)))] [] (S nw nx g, 78 + gn, (wr c 6 f)) B0 post := by
  refine sw_iload (dX4_add.at 10 rfl) rfl ?_
  refine sw_iload (dX4_add.at 11 rfl) rfl ?_
  refine sw_icmpN_lt k t (tgt := 56) (dX4_add.at 12 rfl) (by decide) hv.1 hv.2.1 (fun q => ?_) (fun q => ?_)
  · replace hv := hv.2.2.1 q
    exact sw_vret (dX4_add.at 33 rfl) rfl (Nat.le_refl _) (Nat.le_refl _) hv
  · replace hv := hv.2.2.2 q
    refine sw_aload_n (dX4_add.at 13 rfl) rfl rfl ?_
    refine sw_getR (dX4_add.at 14 rfl) fp_X4_9 (S_lt 5 (by decide)) (S_5 nw nx g) rfl rfl ?_
    refine sw_iload (dX4_add.at 15 rfl) rfl ?_
    refine sw_iload (dX4_add.at 16 rfl) rfl ?_
    refine sw_iadd (dX4_add.at 17 rfl) ?_
    refine sw_topI (y := ((p + k : Nat) : Int)) (by first | rfl | (congr 1)) ?_
    refine sw_dup2 (dX4_add.at 18 rfl) (fun _ h => by cases h) (fun _ h => by cases h) ?_
    refine sw_ialdN (p + k) (w := f (p + k)) (dX4_add.at 19 rfl) (S_lt 6 (by decide)) (S_6 nw nx g) (by decide) hv.1 rfl ?_
    replace hv := hv.2
    refine sw_iload (dX4_add.at 20 rfl) rfl ?_
    refine sw_aload_n (dX4_add.at 21 rfl) rfl rfl ?_
    refine sw_iload_n (dX4_add.at 22 rfl) rfl rfl ?_
    refine sw_iload (dX4_add.at 23 rfl) rfl ?_
    refine sw_iload (dX4_add.at 24 rfl) rfl ?_
    refine sw_iload (dX4_add.at 25 rfl) rfl ?_
    refine sw_isub (dX4_add.at 26 rfl) ?_
    refine sw_topI (y := ((k - t : Nat) : Int)) (congrArg _ (Int.ofNat_sub hv.1).symm) ?_
    replace hv := hv.2
    refine sw_callV (B' := B0) (As := [vi (((x : Nat) : Int)), vi (((y : Nat) : Int)), vi (((k - t : Nat) : Int))]) (mc := 0) (ms := 0) (dX4_add.at 27 rfl) lk_X4_33 (S_lt 5 (by decide)) (S_5 nw nx g) rfl rfl (Nat.le_of_ble_eq_true rfl) rfl (Nat.le_refl _) (Nat.le_refl _) ?_
    refine c_X4_number (v := x) (w := y) (k := (k - t)) (j := j + 0) hv.1 hv.2.1 hv.2.2.1 ?_
    replace hv := hv.2.2.2
    refine sw_imul (dX4_add.at 28 rfl) ?_
    refine sw_iadd (dX4_add.at 29 rfl) ?_
    refine sw_iastN (p + k) (dX4_add.at 30 rfl) (S_lt 6 (by decide)) (S_6 nw nx g) (by decide) hv.1 ?_
    refine SW.cg (M' := (S nw nx g, 78 + gn, (wr c 6 (u1 f (p + k) ((f (p + k)) + (o * (if (k - t) < 8 then (wr c 6 f) 6 ((x * 60 + y) * 8 + (k - t)) else 0))))))) (congrArg (fun m => (S nw nx g, 78 + gn, m)) (wr_up c 6 f (p + k) ((f (p + k)) + (o * (if (k - t) < 8 then (wr c 6 f) 6 ((x * 60 + y) * 8 + (k - t)) else 0))))) ?_
    replace hv := hv.2
    refine sw_iinc (lo' := [some (vr (5)), some (vi (((v : Nat) : Int))), some (vi (((w : Nat) : Int))), some (vi (((x : Nat) : Int))), some (vi (((y : Nat) : Int))), some (vi (((t : Nat) : Int))), some (vi (o)), some (vi (((p : Nat) : Int))), some (vi (((k : Nat) : Int) + (-1)))]) (dX4_add.at 31 rfl) rfl (by decide) rfl ?_
    refine sw_goto (tgt := 15) (dX4_add.at 32 rfl) (by decide) ?_
    exact hv

set_option maxHeartbeats 2000000 in
set_option maxRecDepth 20000 in
theorem g_X4_add_15e {G : GG} {j nw nx gn : Nat} {g : Nat → Sh} {c : Nat → Nat → Int} {post : Option AV → AM → Prop} {v : Nat} {w : Nat} {x : Nat} {y : Nat} {t : Nat} {o : Int} {p : Nat} {f : Nat → Int}  (hv : (t < 2147483648) ∧ ((((-1) < ((t : Nat) : Int)) → post none (S nw nx g, 78 + gn, (wr c 6 f))) ∧ ((¬ ((-1) < ((t : Nat) : Int))) → SW G (j + 1) mX4_add 32 [some (vr (5)), some (vi (((v : Nat) : Int))), some (vi (((w : Nat) : Int))), some (vi (((x : Nat) : Int))), some (vi (((y : Nat) : Int))), some (vi (((t : Nat) : Int))), some (vi (o)), some (vi (((p : Nat) : Int))), some (vi ((-1)))] [vi (((p : Nat) : Int) + (-1)), vr (6), vi (((p : Nat) : Int) + (-1)), vr (6)] (S nw nx g, 78 + gn, (wr c 6 f)) B0 post))) :
    SW G (j + 1) mX4_add 15 [some (vr (5)), some (vi (((v : Nat) : Int))), some (vi (((w : Nat) : Int))), some (vi (((x : Nat) : Int))), some (vi (((y : Nat) : Int))), some (vi (((t : Nat) : Int))), some (vi (o)), some (vi (((p : Nat) : Int))), some (vi ((-1)))] [] (S nw nx g, 78 + gn, (wr c 6 f)) B0 post := by
  refine sw_iload (dX4_add.at 10 rfl) rfl ?_
  refine sw_iload (dX4_add.at 11 rfl) rfl ?_
  refine sw_icmp_lt (tgt := 56) (dX4_add.at 12 rfl) (by decide) (by decide) (nrng hv.1) (fun q => ?_) (fun q => ?_)
  · replace hv := hv.2.1 q
    exact sw_vret (dX4_add.at 33 rfl) rfl (Nat.le_refl _) (Nat.le_refl _) hv
  · replace hv := hv.2.2 q
    refine sw_aload_n (dX4_add.at 13 rfl) rfl rfl ?_
    refine sw_getR (dX4_add.at 14 rfl) fp_X4_9 (S_lt 5 (by decide)) (S_5 nw nx g) rfl rfl ?_
    refine sw_iload (dX4_add.at 15 rfl) rfl ?_
    refine sw_iload (dX4_add.at 16 rfl) rfl ?_
    refine sw_iadd (dX4_add.at 17 rfl) ?_
    refine sw_dup2 (dX4_add.at 18 rfl) (fun _ h => by cases h) (fun _ h => by cases h) ?_
    exact hv

set_option maxHeartbeats 2000000 in
theorem lp_X4_add_15 {G : GG} {j nw nx gn : Nat} {g : Nat → Sh} {c : Nat → Nat → Int} {post : Option AV → AM → Prop} {v w x y t p : Nat} {o : Int} {f : Nat → Int} (hx : x < 60) (hy : y < 60) (hp : p + 8 ≤ 28800) (ht : t < 100) (hd : (x * 60 + y) * 8 + 8 ≤ p ∨ p + 8 ≤ (x * 60 + y) * 8) (K : post none (S nw nx g, 78 + gn, wr c 6 (adS f p ((x * 60 + y) * 8) t o 0))) : ∀ k : Nat, k ≤ 8 → SW G (j + 1) mX4_add 15 [some (vr (5)), some (vi (((v : Nat) : Int))), some (vi (((w : Nat) : Int))), some (vi (((x : Nat) : Int))), some (vi (((y : Nat) : Int))), some (vi (((t : Nat) : Int))), some (vi (o)), some (vi (((p : Nat) : Int))), some (vi ((k : Int) - 1))] [] (S nw nx g, 78 + gn, wr c 6 (adS f p ((x * 60 + y) * 8) t o k)) B0 post := by
  intro k
  induction k with
  | zero =>
    intro _
    have e : (((0 : Nat) : Int) - 1) = (-1) := by omega
    rw [e]
    refine g_X4_add_15e ?_
    refine ⟨?_, ⟨fun q => ?_, fun q => ?_⟩⟩
    all_goals first | exact K | omega | (exfalso; omega)
  | succ k ih =>
    intro hk
    have e : (((k + 1 : Nat) : Int) - 1) = ((k : Nat) : Int) := by omega
    have e2 : ((k : Nat) : Int) + (-1) = (k : Int) - 1 := by omega
    rw [e]
    refine g_X4_add_15 ?_
    rw [e2]
    by_cases h : k < t
    · rw [← adS_t f p _ t o (show k + 1 ≤ t by omega)] at K
      refine ⟨?_, ?_, ⟨fun q => ?_, fun q => ⟨?_, ⟨?_, ⟨?_, ?_, ?_, ⟨?_, ?_⟩⟩⟩⟩⟩⟩
      all_goals first | exact K | omega | (exfalso; omega)
    · have h2 := ih (by omega)
      rw [← adS_up f o (by omega) (by omega) hd] at h2
      rw [if_pos (show k - t < 8 by omega), wr_at]
      refine ⟨?_, ?_, ⟨fun q => ?_, fun q => ⟨?_, ⟨?_, ⟨?_, ?_, ?_, ⟨?_, ?_⟩⟩⟩⟩⟩⟩
      all_goals first | exact h2 | omega | (exfalso; omega)

set_option maxHeartbeats 2000000 in
set_option maxRecDepth 20000 in
theorem g_X4_add_0 {G : GG} {j nw nx gn : Nat} {g : Nat → Sh} {c : Nat → Nat → Int} {post : Option AV → AM → Prop} {v : Nat} {w : Nat} {x : Nat} {y : Nat} {t : Nat} {o : Int}  (hv : SW G (j + 1) mX4_add 15 [some (vr (5)), some (vi (((v : Nat) : Int))), some (vi (((w : Nat) : Int))), some (vi (((x : Nat) : Int))), some (vi (((y : Nat) : Int))), some (vi (((t : Nat) : Int))), some (vi (o)), some (vi (((((v * 60) + w) * 8 : Nat) : Int))), some (vi (7))] [] (S nw nx g, 78 + gn, c) B0 post) :
    SW G (j + 1) mX4_add 0 [some (vr (5)), some (vi (((v : Nat) : Int))), some (vi (((w : Nat) : Int))), some (vi (((x : Nat) : Int))), some (vi (((y : Nat) : Int))), some (vi (((t : Nat) : Int))), some (vi (o)), none, none] [] (S nw nx g, 78 + gn, c) B0 post := by
  refine sw_iload_n (dX4_add.at 0 rfl) rfl rfl ?_
  refine sw_bipush (dX4_add.at 1 rfl) (by decide) ?_
  refine sw_imul (dX4_add.at 2 rfl) ?_
  refine sw_topI (y := ((v * 60 : Nat) : Int)) (by first | rfl | (congr 1)) ?_
  refine sw_iload_n (dX4_add.at 3 rfl) rfl rfl ?_
  refine sw_iadd (dX4_add.at 4 rfl) ?_
  refine sw_topI (y := (((v * 60) + w : Nat) : Int)) (by first | rfl | (congr 1)) ?_
  refine sw_bipush (dX4_add.at 5 rfl) (by decide) ?_
  refine sw_imul (dX4_add.at 6 rfl) ?_
  refine sw_topI (y := ((((v * 60) + w) * 8 : Nat) : Int)) (by first | rfl | (congr 1)) ?_
  refine sw_istore (lo' := [some (vr (5)), some (vi (((v : Nat) : Int))), some (vi (((w : Nat) : Int))), some (vi (((x : Nat) : Int))), some (vi (((y : Nat) : Int))), some (vi (((t : Nat) : Int))), some (vi (o)), some (vi (((((v * 60) + w) * 8 : Nat) : Int))), none]) (dX4_add.at 7 rfl) (by decide) rfl ?_
  refine sw_bipush (dX4_add.at 8 rfl) (by decide) ?_
  refine sw_istore (lo' := [some (vr (5)), some (vi (((v : Nat) : Int))), some (vi (((w : Nat) : Int))), some (vi (((x : Nat) : Int))), some (vi (((y : Nat) : Int))), some (vi (((t : Nat) : Int))), some (vi (o)), some (vi (((((v * 60) + w) * 8 : Nat) : Int))), some (vi (7))]) (dX4_add.at 9 rfl) (by decide) rfl ?_
  exact hv

set_option maxHeartbeats 2000000 in
theorem c_X4_add {G : GG} {j nw nx gn : Nat} {g : Nat → Sh} {c : Nat → Nat → Int} {post : Option AV → AM → Prop} {v : Nat} {w : Nat} {x : Nat} {y : Nat} {t : Nat} {o : Int} (p1 : v < 60) (p2 : w < 60) (p3 : x < 60) (p4 : y < 60) (p5 : t < 100) (p6 : (x * 60 + y) * 8 + 8 ≤ (v * 60 + w) * 8 ∨ (v * 60 + w) * 8 + 8 ≤ (x * 60 + y) * 8) (K : post none (S nw nx g, 78 + gn, (wr c 6 (adS (c 6) ((v * 60 + w) * 8) ((x * 60 + y) * 8) t o 0)))) : SM G (j + 2) mX4_add [vr (5), vi (((v : Nat) : Int)), vi (((w : Nat) : Int)), vi (((x : Nat) : Int)), vi (((y : Nat) : Int)), vi (((t : Nat) : Int)), vi (o)] (S nw nx g, 78 + gn, c) 0 0 post := by
  refine sm_of wX4_add rfl (Nat.le_of_ble_eq_true rfl) ?_
  refine g_X4_add_0  ?_
  have h := lp_X4_add_15 (G := G) (j := j) (v := v) (w := w) p3 p4 (by omega) p5 p6 K 8 (by omega)
  rw [adS_8, wr_self] at h
  exact h

set_option maxHeartbeats 2000000 in
set_option maxRecDepth 20000 in
theorem g_X4_middle_0 {G : GG} {j nw nx gn : Nat} {g : Nat → Sh} {c : Nat → Nat → Int} {post : Option AV → AM → Prop} {e : Nat} {v : Nat} {w : Nat} (he : e = 21 ∨ e = 35) {P : GD} (hE : EL c e P) (hV : GV P)  (hv : (w < gN P) ∧ ((v < gN P) ∧ ((gL P v ≤ gL P w) ∧ (((gL P w) - (gL P v) < 2147483648) ∧ ((((((gL P w) - (gL P v) : Nat) : Int) ≤ 0) → post (some (vi (0))) (S nw nx g, 78 + gn, c)) ∧ ((¬ ((((gL P w) - (gL P v) : Nat) : Int) ≤ 0)) → (((gL P w) - (gL P v)) &&& 1 < 2147483648) ∧ (((((gL P w) - (gL P v)) &&& 1 ≠ 1) → post (some (vi (0))) (S nw nx g, 78 + gn, c)) ∧ ((((gL P w) - (gL P v)) &&& 1 = 1) → (1 ≤ (gL P w) - (gL P v)) ∧ ((((gL P w) - (gL P v)) - 1 < 2147483648) ∧ ((v < 60) ∧ (w < 60) ∧ (((((gL P w) - (gL P v)) - 1) / 2) < 2147483648) ∧ (post (some (vi ((if ((((gL P w) - (gL P v)) - 1) / 2) < 8 then c 6 ((v * 60 + w) * 8 + ((((gL P w) - (gL P v)) - 1) / 2)) else 0)))) (S nw nx g, 78 + gn, c)))))))))))) :
    SW G (j + 1) mX4_middle 0 [some (vr (5)), some (vr (e)), some (vi (((v : Nat) : Int))), some (vi (((w : Nat) : Int))), none] [] (S nw nx g, 78 + gn, c) B0 post := by
  refine sw_aload_n (dX4_middle.at 0 rfl) rfl rfl ?_
  refine sw_getR (dX4_middle.at 1 rfl) fp_X4_37 (S_e_lt he) (S_e he) rfl rfl ?_
  refine sw_iload_n (dX4_middle.at 2 rfl) rfl rfl ?_
  refine sw_ialdN w (w := ((gL P w : Nat) : Int)) (dX4_middle.at 3 rfl) (S_ek_lt he (by decide)) (S_e_2 he) (by decide) (GV_lt hV hv.1) (EL_L hE hv.1) ?_
  replace hv := hv.2
  refine sw_aload_n (dX4_middle.at 4 rfl) rfl rfl ?_
  refine sw_getR (dX4_middle.at 5 rfl) fp_X4_37 (S_e_lt he) (S_e he) rfl rfl ?_
  refine sw_iload_n (dX4_middle.at 6 rfl) rfl rfl ?_
  refine sw_ialdN v (w := ((gL P v : Nat) : Int)) (dX4_middle.at 7 rfl) (S_ek_lt he (by decide)) (S_e_2 he) (by decide) (GV_lt hV hv.1) (EL_L hE hv.1) ?_
  replace hv := hv.2
  refine sw_isub (dX4_middle.at 8 rfl) ?_
  refine sw_topI (y := (((gL P w) - (gL P v) : Nat) : Int)) (congrArg _ (Int.ofNat_sub hv.1).symm) ?_
  replace hv := hv.2
  refine sw_istore (lo' := [some (vr (5)), some (vr (e)), some (vi (((v : Nat) : Int))), some (vi (((w : Nat) : Int))), some (vi ((((gL P w) - (gL P v) : Nat) : Int)))]) (dX4_middle.at 9 rfl) (by decide) rfl ?_
  refine sw_iload (dX4_middle.at 10 rfl) rfl ?_
  refine sw_if_le (tgt := 43) (dX4_middle.at 11 rfl) (by decide) (nrng hv.1) (fun q => ?_) (fun q => ?_)
  · replace hv := hv.2.1 q
    refine sw_iconst (dX4_middle.at 27 rfl) ?_
    exact sw_iret (dX4_middle.at 28 rfl) rfl (Nat.le_refl _) (Nat.le_refl _) hv
  · replace hv := hv.2.2 q
    refine sw_iload (dX4_middle.at 12 rfl) rfl ?_
    refine sw_iconst (dX4_middle.at 13 rfl) ?_
    refine sw_andN ((gL P w) - (gL P v)) 1 (dX4_middle.at 14 rfl) ?_
    refine sw_iconst (dX4_middle.at 15 rfl) ?_
    refine sw_icmpN_ne (((gL P w) - (gL P v)) &&& 1) 1 (tgt := 43) (dX4_middle.at 16 rfl) (by decide) hv.1 (by decide) (fun q => ?_) (fun q => ?_)
    · replace hv := hv.2.1 q
      refine sw_iconst (dX4_middle.at 27 rfl) ?_
      exact sw_iret (dX4_middle.at 28 rfl) rfl (Nat.le_refl _) (Nat.le_refl _) hv
    · replace hv := hv.2.2 q
      refine sw_aload_n (dX4_middle.at 17 rfl) rfl rfl ?_
      refine sw_iload_n (dX4_middle.at 18 rfl) rfl rfl ?_
      refine sw_iload_n (dX4_middle.at 19 rfl) rfl rfl ?_
      refine sw_iload (dX4_middle.at 20 rfl) rfl ?_
      refine sw_iconst (dX4_middle.at 21 rfl) ?_
      refine sw_isub (dX4_middle.at 22 rfl) ?_
      refine sw_topI (y := ((((gL P w) - (gL P v)) - 1 : Nat) : Int)) (congrArg _ (Int.ofNat_sub hv.1).symm) ?_
      replace hv := hv.2
      refine sw_iconst (dX4_middle.at 23 rfl) ?_
      refine sw_idivN (((gL P w) - (gL P v)) - 1) 2 (dX4_middle.at 24 rfl) (by decide) (by decide) hv.1 ?_
      replace hv := hv.2
      refine sw_callV (B' := B0) (As := [vi (((v : Nat) : Int)), vi (((w : Nat) : Int)), vi ((((((gL P w) - (gL P v)) - 1) / 2 : Nat) : Int))]) (mc := 0) (ms := 0) (dX4_middle.at 25 rfl) lk_X4_33 (S_lt 5 (by decide)) (S_5 nw nx g) rfl rfl (Nat.le_of_ble_eq_true rfl) rfl (Nat.le_refl _) (Nat.le_refl _) ?_
      refine c_X4_number (v := v) (w := w) (k := ((((gL P w) - (gL P v)) - 1) / 2)) (j := j + 0) hv.1 hv.2.1 hv.2.2.1 ?_
      replace hv := hv.2.2.2
      refine sw_goto (tgt := 44) (dX4_middle.at 26 rfl) (by decide) ?_
      exact sw_iret (dX4_middle.at 28 rfl) rfl (Nat.le_refl _) (Nat.le_refl _) hv

set_option maxHeartbeats 2000000 in
set_option maxRecDepth 20000 in
theorem g_X4_middle_0i {G : GG} {j nw nx gn : Nat} {g : Nat → Sh} {c : Nat → Nat → Int} {post : Option AV → AM → Prop} {e : Nat} {v : Nat} {w : Nat} (he : e = 21 ∨ e = 35) {P : GD} (hE : EL c e P) (hV : GV P)  (hv : (w < gN P) ∧ ((v < gN P) ∧ ((-2147483648 ≤ ((gL P w : Nat) : Int) - ((gL P v : Nat) : Int) ∧ ((gL P w : Nat) : Int) - ((gL P v : Nat) : Int) < 2147483648) ∧ (((((gL P w : Nat) : Int) - ((gL P v : Nat) : Int) ≤ 0) → post (some (vi (0))) (S nw nx g, 78 + gn, c)) ∧ ((¬ (((gL P w : Nat) : Int) - ((gL P v : Nat) : Int) ≤ 0)) → (-2147483648 ≤ and32 (((gL P w : Nat) : Int) - ((gL P v : Nat) : Int)) 1 ∧ and32 (((gL P w : Nat) : Int) - ((gL P v : Nat) : Int)) 1 < 2147483648) ∧ (((and32 (((gL P w : Nat) : Int) - ((gL P v : Nat) : Int)) 1 ≠ 1) → post (some (vi (0))) (S nw nx g, 78 + gn, c)) ∧ ((and32 (((gL P w : Nat) : Int) - ((gL P v : Nat) : Int)) 1 = 1) → SW G (j + 1) mX4_middle 37 [some (vr (5)), some (vr (e)), some (vi (((v : Nat) : Int))), some (vi (((w : Nat) : Int))), some (vi (((gL P w : Nat) : Int) - ((gL P v : Nat) : Int)))] [vi (div32 ((((gL P w : Nat) : Int) - ((gL P v : Nat) : Int)) - 1) 2), vi (((w : Nat) : Int)), vi (((v : Nat) : Int)), vr (5)] (S nw nx g, 78 + gn, c) B0 post))))))) :
    SW G (j + 1) mX4_middle 0 [some (vr (5)), some (vr (e)), some (vi (((v : Nat) : Int))), some (vi (((w : Nat) : Int))), none] [] (S nw nx g, 78 + gn, c) B0 post := by
  refine sw_aload_n (dX4_middle.at 0 rfl) rfl rfl ?_
  refine sw_getR (dX4_middle.at 1 rfl) fp_X4_37 (S_e_lt he) (S_e he) rfl rfl ?_
  refine sw_iload_n (dX4_middle.at 2 rfl) rfl rfl ?_
  refine sw_ialdN w (w := ((gL P w : Nat) : Int)) (dX4_middle.at 3 rfl) (S_ek_lt he (by decide)) (S_e_2 he) (by decide) (GV_lt hV hv.1) (EL_L hE hv.1) ?_
  replace hv := hv.2
  refine sw_aload_n (dX4_middle.at 4 rfl) rfl rfl ?_
  refine sw_getR (dX4_middle.at 5 rfl) fp_X4_37 (S_e_lt he) (S_e he) rfl rfl ?_
  refine sw_iload_n (dX4_middle.at 6 rfl) rfl rfl ?_
  refine sw_ialdN v (w := ((gL P v : Nat) : Int)) (dX4_middle.at 7 rfl) (S_ek_lt he (by decide)) (S_e_2 he) (by decide) (GV_lt hV hv.1) (EL_L hE hv.1) ?_
  replace hv := hv.2
  refine sw_isub (dX4_middle.at 8 rfl) ?_
  refine sw_istore (lo' := [some (vr (5)), some (vr (e)), some (vi (((v : Nat) : Int))), some (vi (((w : Nat) : Int))), some (vi (((gL P w : Nat) : Int) - ((gL P v : Nat) : Int)))]) (dX4_middle.at 9 rfl) (by decide) rfl ?_
  refine sw_iload (dX4_middle.at 10 rfl) rfl ?_
  refine sw_if_le (tgt := 43) (dX4_middle.at 11 rfl) (by decide) hv.1 (fun q => ?_) (fun q => ?_)
  · replace hv := hv.2.1 q
    refine sw_iconst (dX4_middle.at 27 rfl) ?_
    exact sw_iret (dX4_middle.at 28 rfl) rfl (Nat.le_refl _) (Nat.le_refl _) hv
  · replace hv := hv.2.2 q
    refine sw_iload (dX4_middle.at 12 rfl) rfl ?_
    refine sw_iconst (dX4_middle.at 13 rfl) ?_
    refine sw_iand (dX4_middle.at 14 rfl) ?_
    refine sw_iconst (dX4_middle.at 15 rfl) ?_
    refine sw_icmp_ne (tgt := 43) (dX4_middle.at 16 rfl) (by decide) hv.1 (by decide) (fun q => ?_) (fun q => ?_)
    · replace hv := hv.2.1 q
      refine sw_iconst (dX4_middle.at 27 rfl) ?_
      exact sw_iret (dX4_middle.at 28 rfl) rfl (Nat.le_refl _) (Nat.le_refl _) hv
    · replace hv := hv.2.2 q
      refine sw_aload_n (dX4_middle.at 17 rfl) rfl rfl ?_
      refine sw_iload_n (dX4_middle.at 18 rfl) rfl rfl ?_
      refine sw_iload_n (dX4_middle.at 19 rfl) rfl rfl ?_
      refine sw_iload (dX4_middle.at 20 rfl) rfl ?_
      refine sw_iconst (dX4_middle.at 21 rfl) ?_
      refine sw_isub (dX4_middle.at 22 rfl) ?_
      refine sw_iconst (dX4_middle.at 23 rfl) ?_
      refine sw_idiv (dX4_middle.at 24 rfl) (by decide) ?_
      exact hv

def muG (P : GD) (f : Nat → Int) (v w : Nat) : Int := if gL P v < gL P w ∧ (gL P w - gL P v) % 2 = 1 then f ((v * 60 + w) * 8 + (gL P w - gL P v - 1) / 2) else 0
set_option maxHeartbeats 2000000 in
theorem c_X4_middle {G : GG} {j nw nx gn : Nat} {g : Nat → Sh} {c : Nat → Nat → Int} {post : Option AV → AM → Prop} {P : GD} {e : Nat} {v : Nat} {w : Nat} (he : e = 21 ∨ e = 35) (hE : EL c e P) (hV : GV P) (p1 : v < gN P) (p2 : w < gN P) (K : post (some (vi (muG P (c 6) v w))) (S nw nx g, 78 + gn, c)) : SM G (j + 2) mX4_middle [vr (5), vr (e), vi (((v : Nat) : Int)), vi (((w : Nat) : Int))] (S nw nx g, 78 + gn, c) 0 0 post := by
  refine sm_of wX4_middle rfl (Nat.le_of_ble_eq_true rfl) ?_
  have h60 := GV_N hV
  have h1 := (hV.2.2.1 v p1).1
  have h2 := (hV.2.2.1 w p2).1
  by_cases h : gL P v ≤ gL P w
  · refine g_X4_middle_0 he hE hV ?_
    rw [Nat.and_one_is_mod, if_pos (show (gL P w - gL P v - 1) / 2 < 8 by omega)]
    rw [muG] at K
    refine ⟨?_, ⟨?_, ⟨?_, ⟨?_, ⟨fun q => ?_, fun q => ⟨?_, ⟨fun q => ?_, fun q => ⟨?_, ⟨?_, ⟨?_, ?_, ?_, ?_⟩⟩⟩⟩⟩⟩⟩⟩⟩⟩
    all_goals first | assumption | omega | (rw [if_neg (by omega)] at K; exact K) | (rw [if_pos (by omega)] at K; exact K)
  · refine g_X4_middle_0i he hE hV ?_
    rw [muG, if_neg (by omega)] at K
    refine ⟨?_, ⟨?_, ⟨?_, ⟨fun q => ?_, fun q => ⟨?_, ⟨fun q => ?_, fun q => ?_⟩⟩⟩⟩⟩⟩
    all_goals first | assumption | omega | (exfalso; omega)

def clS (f : Nat → Int) (w v k : Nat) : Nat → Int := fun i => if i / 8 % 60 = w ∧ (i / 480 < v ∨ (i / 480 = v ∧ i % 8 < k)) then 0 else f i
theorem clS_0 (f : Nat → Int) (w : Nat) : clS f w 0 0 = f := by
  funext i
  rw [clS, if_neg (by omega)]
theorem clS_8 (f : Nat → Int) (w v : Nat) : clS f w v 8 = clS f w (v + 1) 0 := by
  funext i
  simp only [clS]
  by_cases h : i / 8 % 60 = w ∧ (i / 480 < v ∨ (i / 480 = v ∧ i % 8 < 8))
  · rw [if_pos h, if_pos (by omega)]
  · rw [if_neg h, if_neg (by omega)]
theorem clS_up (f : Nat → Int) {w v k : Nat} (hw : w < 60) (hk : k < 8) : u1 (clS f w v k) ((v * 60 + w) * 8 + k) 0 = clS f w v (k + 1) := by
  funext i
  by_cases e : i = (v * 60 + w) * 8 + k
  · rw [e, u1_eq, clS, if_pos (by omega)]
  · rw [u1_ne e]
    simp only [clS]
    by_cases h : i / 8 % 60 = w ∧ (i / 480 < v ∨ (i / 480 = v ∧ i % 8 < k))
    · rw [if_pos h, if_pos (by omega)]
    · rw [if_neg h, if_neg (by omega)]
set_option maxHeartbeats 2000000 in
set_option maxRecDepth 20000 in
theorem g_X4_clearColumn_2 {G : GG} {j nw nx gn : Nat} {g : Nat → Sh} {c : Nat → Nat → Int} {post : Option AV → AM → Prop} {m : Nat} {w : Nat} {v : Nat} {f : Nat → Int}  (hv : (v < 2147483648) ∧ (m < 2147483648) ∧ (((m ≤ v) → post none (S nw nx g, 78 + gn, (wr c 6 f))) ∧ ((¬ (m ≤ v)) → SW G (j + 0) mX4_clearColumn 10 [some (vr (5)), some (vi (((m : Nat) : Int))), some (vi (((w : Nat) : Int))), some (vi (((v : Nat) : Int))), some (vi (0))] [] (S nw nx g, 78 + gn, (wr c 6 f)) B0 post))) :
    SW G (j + 0) mX4_clearColumn 2 [some (vr (5)), some (vi (((m : Nat) : Int))), some (vi (((w : Nat) : Int))), some (vi (((v : Nat) : Int))), none] [] (S nw nx g, 78 + gn, (wr c 6 f)) B0 post := by
  refine sw_iload_n (dX4_clearColumn.at 2 rfl) rfl rfl ?_
  refine sw_iload_n (dX4_clearColumn.at 3 rfl) rfl rfl ?_
  refine sw_icmpN_ge v m (tgt := 47) (dX4_clearColumn.at 4 rfl) (by decide) hv.1 hv.2.1 (fun q => ?_) (fun q => ?_)
  · replace hv := hv.2.2.1 q
    exact sw_vret (dX4_clearColumn.at 27 rfl) rfl (Nat.le_refl _) (Nat.le_refl _) hv
  · replace hv := hv.2.2.2 q
    refine sw_iconst (dX4_clearColumn.at 5 rfl) ?_
    refine sw_istore (lo' := [some (vr (5)), some (vi (((m : Nat) : Int))), some (vi (((w : Nat) : Int))), some (vi (((v : Nat) : Int))), some (vi (0))]) (dX4_clearColumn.at 6 rfl) (by decide) rfl ?_
    exact hv

set_option maxHeartbeats 2000000 in
set_option maxRecDepth 20000 in
theorem g_X4_clearColumn_10 {G : GG} {j nw nx gn : Nat} {g : Nat → Sh} {c : Nat → Nat → Int} {post : Option AV → AM → Prop} {m : Nat} {w : Nat} {v : Nat} {k : Nat} {f : Nat → Int}  (hv : (k < 2147483648) ∧ (((8 ≤ k) → SW G (j + 0) mX4_clearColumn 2 [some (vr (5)), some (vi (((m : Nat) : Int))), some (vi (((w : Nat) : Int))), some (vi (((v + 1 : Nat) : Int))), none] [] (S nw nx g, 78 + gn, (wr c 6 f)) B0 post) ∧ ((¬ (8 ≤ k)) → ((((v * 60) + w) * 8) + k < 28800) ∧ (SW G (j + 0) mX4_clearColumn 10 [some (vr (5)), some (vi (((m : Nat) : Int))), some (vi (((w : Nat) : Int))), some (vi (((v : Nat) : Int))), some (vi (((k + 1 : Nat) : Int)))] [] (S nw nx g, 78 + gn, (wr c 6 (u1 f ((((v * 60) + w) * 8) + k) 0))) B0 post)))) :
    SW G (j + 0) mX4_clearColumn 10 [some (vr (5)), some (vi (((m : Nat) : Int))), some (vi (((w : Nat) : Int))), some (vi (((v : Nat) : Int))), some (vi (((k : Nat) : Int)))] [] (S nw nx g, 78 + gn, (wr c 6 f)) B0 post := by
  refine sw_iload (dX4_clearColumn.at 7 rfl) rfl ?_
  refine sw_bipush (dX4_clearColumn.at 8 rfl) (by decide) ?_
  refine sw_icmpN_ge k 8 (tgt := 41) (dX4_clearColumn.at 9 rfl) (by decide) hv.1 (by decide) (fun q => ?_) (fun q => ?_)
  · replace hv := hv.2.1 q
    refine sw_iinc (lo' := [some (vr (5)), some (vi (((m : Nat) : Int))), some (vi (((w : Nat) : Int))), some (vi (((v + 1 : Nat) : Int))), some (vi (((k : Nat) : Int)))]) (dX4_clearColumn.at 25 rfl) rfl (by decide) rfl ?_
    refine sw_goto (tgt := 2) (dX4_clearColumn.at 26 rfl) (by decide) ?_
    exact sw_mask (bs := [true, true, true, true, false]) hv
  · replace hv := hv.2.2 q
    refine sw_aload_n (dX4_clearColumn.at 10 rfl) rfl rfl ?_
    refine sw_getR (dX4_clearColumn.at 11 rfl) fp_X4_9 (S_lt 5 (by decide)) (S_5 nw nx g) rfl rfl ?_
    refine sw_iload_n (dX4_clearColumn.at 12 rfl) rfl rfl ?_
    refine sw_bipush (dX4_clearColumn.at 13 rfl) (by decide) ?_
    refine sw_imul (dX4_clearColumn.at 14 rfl) ?_
    refine sw_topI (y := ((v * 60 : Nat) : Int)) (by first | rfl | (congr 1)) ?_
    refine sw_iload_n (dX4_clearColumn.at 15 rfl) rfl rfl ?_
    refine sw_iadd (dX4_clearColumn.at 16 rfl) ?_
    refine sw_topI (y := (((v * 60) + w : Nat) : Int)) (by first | rfl | (congr 1)) ?_
    refine sw_bipush (dX4_clearColumn.at 17 rfl) (by decide) ?_
    refine sw_imul (dX4_clearColumn.at 18 rfl) ?_
    refine sw_topI (y := ((((v * 60) + w) * 8 : Nat) : Int)) (by first | rfl | (congr 1)) ?_
    refine sw_iload (dX4_clearColumn.at 19 rfl) rfl ?_
    refine sw_iadd (dX4_clearColumn.at 20 rfl) ?_
    refine sw_topI (y := (((((v * 60) + w) * 8) + k : Nat) : Int)) (by first | rfl | (congr 1)) ?_
    refine sw_iconst (dX4_clearColumn.at 21 rfl) ?_
    refine sw_iastN ((((v * 60) + w) * 8) + k) (dX4_clearColumn.at 22 rfl) (S_lt 6 (by decide)) (S_6 nw nx g) (by decide) hv.1 ?_
    refine SW.cg (M' := (S nw nx g, 78 + gn, (wr c 6 (u1 f ((((v * 60) + w) * 8) + k) 0)))) (congrArg (fun m => (S nw nx g, 78 + gn, m)) (wr_up c 6 f ((((v * 60) + w) * 8) + k) 0)) ?_
    replace hv := hv.2
    refine sw_iinc (lo' := [some (vr (5)), some (vi (((m : Nat) : Int))), some (vi (((w : Nat) : Int))), some (vi (((v : Nat) : Int))), some (vi (((k + 1 : Nat) : Int)))]) (dX4_clearColumn.at 23 rfl) rfl (by decide) rfl ?_
    refine sw_goto (tgt := 10) (dX4_clearColumn.at 24 rfl) (by decide) ?_
    exact hv

set_option maxHeartbeats 2000000 in
theorem lp_X4_clearColumn_10 {G : GG} {j nw nx gn : Nat} {g : Nat → Sh} {c : Nat → Nat → Int} {post : Option AV → AM → Prop} {m w v : Nat} {f : Nat → Int} (hw : w < 60) (hv : v < 60) (K : SW G (j + 0) mX4_clearColumn 2 [some (vr (5)), some (vi (((m : Nat) : Int))), some (vi (((w : Nat) : Int))), some (vi (((v + 1 : Nat) : Int))), none] [] (S nw nx g, 78 + gn, wr c 6 (clS f w (v + 1) 0)) B0 post) : ∀ k i : Nat, i + k = 8 → SW G (j + 0) mX4_clearColumn 10 [some (vr (5)), some (vi (((m : Nat) : Int))), some (vi (((w : Nat) : Int))), some (vi (((v : Nat) : Int))), some (vi (((i : Nat) : Int)))] [] (S nw nx g, 78 + gn, wr c 6 (clS f w v i)) B0 post := by
  intro k
  induction k with
  | zero =>
    intro i hi
    have e : i = 8 := by omega
    subst e
    rw [clS_8]
    refine g_X4_clearColumn_10 ?_
    refine ⟨?_, ⟨fun q => ?_, fun q => ⟨?_, ?_⟩⟩⟩
    all_goals first | exact K | omega | (exfalso; omega)
  | succ k ih =>
    intro i hi
    have h := ih (i + 1) (by omega)
    rw [← clS_up f hw (by omega)] at h
    refine g_X4_clearColumn_10 ?_
    refine ⟨?_, ⟨fun q => ?_, fun q => ⟨?_, ?_⟩⟩⟩
    all_goals first | exact h | omega | (exfalso; omega)
set_option maxHeartbeats 2000000 in
theorem lp_X4_clearColumn_2 {G : GG} {j nw nx gn : Nat} {g : Nat → Sh} {c : Nat → Nat → Int} {post : Option AV → AM → Prop} {m w : Nat} {f : Nat → Int} (hw : w < 60) (hm : m ≤ 60) (K : post none (S nw nx g, 78 + gn, wr c 6 (clS f w m 0))) : ∀ k v : Nat, v + k = m → SW G (j + 0) mX4_clearColumn 2 [some (vr (5)), some (vi (((m : Nat) : Int))), some (vi (((w : Nat) : Int))), some (vi (((v : Nat) : Int))), none] [] (S nw nx g, 78 + gn, wr c 6 (clS f w v 0)) B0 post := by
  intro k
  induction k with
  | zero =>
    intro v hi
    have e : v = m := by omega
    subst e
    refine g_X4_clearColumn_2 ?_
    refine ⟨?_, ?_, ⟨fun q => ?_, fun q => ?_⟩⟩
    all_goals first | exact K | omega | (exfalso; omega)
  | succ k ih =>
    intro v hi
    have h := lp_X4_clearColumn_10 hw (by omega) (ih (v + 1) (by omega)) 8 0 (by omega)
    refine g_X4_clearColumn_2 ?_
    refine ⟨?_, ?_, ⟨fun q => ?_, fun q => ?_⟩⟩
    all_goals first | exact h | omega | (exfalso; omega)

set_option maxHeartbeats 2000000 in
set_option maxRecDepth 20000 in
theorem g_X4_clearColumn_0 {G : GG} {j nw nx gn : Nat} {g : Nat → Sh} {c : Nat → Nat → Int} {post : Option AV → AM → Prop} {m : Nat} {w : Nat}  (hv : SW G (j + 0) mX4_clearColumn 2 [some (vr (5)), some (vi (((m : Nat) : Int))), some (vi (((w : Nat) : Int))), some (vi (0)), none] [] (S nw nx g, 78 + gn, c) B0 post) :
    SW G (j + 0) mX4_clearColumn 0 [some (vr (5)), some (vi (((m : Nat) : Int))), some (vi (((w : Nat) : Int))), none, none] [] (S nw nx g, 78 + gn, c) B0 post := by
  refine sw_iconst (dX4_clearColumn.at 0 rfl) ?_
  refine sw_istore_n (lo' := [some (vr (5)), some (vi (((m : Nat) : Int))), some (vi (((w : Nat) : Int))), some (vi (0)), none]) (dX4_clearColumn.at 1 rfl) rfl (by decide) rfl ?_
  exact hv

set_option maxHeartbeats 2000000 in
theorem c_X4_clearColumn {G : GG} {j nw nx gn : Nat} {g : Nat → Sh} {c : Nat → Nat → Int} {post : Option AV → AM → Prop} {m : Nat} {w : Nat} (p1 : m ≤ 60) (p2 : w < 60) (K : post none (S nw nx g, 78 + gn, (wr c 6 (clS (c 6) w m 0)))) : SM G (j + 1) mX4_clearColumn [vr (5), vi (((m : Nat) : Int)), vi (((w : Nat) : Int))] (S nw nx g, 78 + gn, c) 0 0 post := by
  refine sm_of wX4_clearColumn rfl (Nat.le_of_ble_eq_true rfl) ?_
  refine g_X4_clearColumn_0  ?_
  have h := lp_X4_clearColumn_2 (G := G) (j := j) p2 p1 K m 0 (by omega)
  rw [clS_0, wr_self] at h
  exact h

