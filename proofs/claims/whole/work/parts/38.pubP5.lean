/-- pairs in their order: the i-th with pr; e: the answer behind all, by how many there were -/
def krow (p : Nat → Bool) (v : Nat) (i : Int) (cont : Nat → Int) : Nat → Nat → Nat → Int
  | 0, _, u => cont u
  | k + 1, w, u => if p w then (if (u : Int) = i then ((100 * v + w : Nat) : Int) else krow p v i cont k (w + 1) (u + 1)) else krow p v i cont k (w + 1) u
def kall (pr : Nat → Nat → Bool) (lo : Nat → Nat) (n : Nat) (i : Int) (e : Nat → Int) : Nat → Nat → Nat → Int
  | 0, _, u => e u
  | k + 1, v, u => krow (pr v) v i (fun u2 => kall pr lo n i e k (v + 1) u2) (n - lo v) (lo v) u
def crS (f : Nat → Int) (v w : Nat) : Bool := decide (0 < hpF f ((v * 60 + w) * 8) 8)
def crT (T : PT) (v w : Nat) : Bool := decide (0 < hpT T v w)
theorem krow_cong {p p2 : Nat → Bool} {v : Nat} {i : Int} {cont cont2 : Nat → Int} (hc : ∀ u, cont u = cont2 u) : ∀ k w u, (∀ z, z < w + k → p z = p2 z) → krow p v i cont k w u = krow p2 v i cont2 k w u := by
  intro k
  induction k with
  | zero => intro w u _; exact hc u
  | succ k ih => intro w u h; rw [krow, krow, h w (by omega), ih (w + 1) (u + 1) (fun z hz => h z (by omega)), ih (w + 1) u (fun z hz => h z (by omega))]
theorem kall_cong {pr pr2 : Nat → Nat → Bool} {lo : Nat → Nat} {n : Nat} {i : Int} {e : Nat → Int} (h : ∀ v w, v < n → w < n → pr v w = pr2 v w) : ∀ k v u, v + k ≤ n → lo v ≤ n → (∀ v, lo v ≤ v) → kall pr lo n i e k v u = kall pr2 lo n i e k v u := by
  intro k
  induction k with
  | zero => intro v u _ _ _; rfl
  | succ k ih =>
    intro v u hv hl hlo
    rw [kall, kall]
    refine krow_cong (fun u2 => ?_) _ _ _ (fun z hz => h v z (by omega) (by omega))
    by_cases hk : v + 1 ≤ n
    · exact ih (v + 1) u2 (by omega) (by have := hlo (v + 1); omega) hlo
    · omega
set_option maxHeartbeats 2000000 in
set_option maxRecDepth 20000 in
theorem g_X4_crookedAt_15 {G : GG} {j nw nx gn : Nat} {g : Nat → Sh} {c : Nat → Nat → Int} {post : Option AV → AM → Prop} {q0 : Nat} {i : Nat} {v : Nat} {w : Nat} {u : Nat}  (hv : (w < 2147483648) ∧ (q0 < 2147483648) ∧ (((q0 ≤ w) → SW G (j + 3) mX4_crookedAt 5 [some (vr (5)), some (vi (((q0 : Nat) : Int))), some (vi (((i : Nat) : Int))), some (vi (((u : Nat) : Int))), some (vi (((v + 1 : Nat) : Int))), none] [] (S nw nx g, 78 + gn, c) B0 post) ∧ ((¬ (q0 ≤ w)) → (v < 60) ∧ (w < 60) ∧ (∀ k, k < 8 → -2147483648 ≤ c 6 ((v * 60 + w) * 8 + k) ∧ c 6 ((v * 60 + w) * 8 + k) < 2147483648) ∧ ((((decide (0 < hpF (c 6) ((v * 60 + w) * 8) 8)) = false) → SW G (j + 3) mX4_crookedAt 15 [some (vr (5)), some (vi (((q0 : Nat) : Int))), some (vi (((i : Nat) : Int))), some (vi (((u : Nat) : Int))), some (vi (((v : Nat) : Int))), some (vi (((w + 1 : Nat) : Int)))] [] (S nw nx g, 78 + gn, c) B0 post) ∧ (((decide (0 < hpF (c 6) ((v * 60 + w) * 8) 8)) = true) → (u < 2147483648) ∧ (i < 2147483648) ∧ (((u ≠ i) → SW G (j + 3) mX4_crookedAt 15 [some (vr (5)), some (vi (((q0 : Nat) : Int))), some (vi (((i : Nat) : Int))), some (vi (((u + 1 : Nat) : Int))), some (vi (((v : Nat) : Int))), some (vi (((w + 1 : Nat) : Int)))] [] (S nw nx g, 78 + gn, c) B0 post) ∧ ((u = i) → post (some (vi ((((100 * v) + w : Nat) : Int)))) (S nw nx g, 78 + gn, c)))))))) :
    SW G (j + 3) mX4_crookedAt 15 [some (vr (5)), some (vi (((q0 : Nat) : Int))), some (vi (((i : Nat) : Int))), some (vi (((u : Nat) : Int))), some (vi (((v : Nat) : Int))), some (vi (((w : Nat) : Int)))] [] (S nw nx g, 78 + gn, c) B0 post := by
  refine sw_iload (dX4_crookedAt.at 9 rfl) rfl ?_
  refine sw_iload_n (dX4_crookedAt.at 10 rfl) rfl rfl ?_
  refine sw_icmpN_ge w q0 (tgt := 55) (dX4_crookedAt.at 11 rfl) (by decide) hv.1 hv.2.1 (fun q => ?_) (fun q => ?_)
  · replace hv := hv.2.2.1 q
    refine sw_iinc (lo' := [some (vr (5)), some (vi (((q0 : Nat) : Int))), some (vi (((i : Nat) : Int))), some (vi (((u : Nat) : Int))), some (vi (((v + 1 : Nat) : Int))), some (vi (((w : Nat) : Int)))]) (dX4_crookedAt.at 29 rfl) rfl (by decide) rfl ?_
    refine sw_goto (tgt := 5) (dX4_crookedAt.at 30 rfl) (by decide) ?_
    exact sw_mask (bs := [true, true, true, true, true, false]) hv
  · replace hv := hv.2.2.2 q
    refine sw_aload_n (dX4_crookedAt.at 12 rfl) rfl rfl ?_
    refine sw_iload (dX4_crookedAt.at 13 rfl) rfl ?_
    refine sw_iload (dX4_crookedAt.at 14 rfl) rfl ?_
    refine sw_callV (B' := B0) (As := [vi (((v : Nat) : Int)), vi (((w : Nat) : Int))]) (mc := 0) (ms := 0) (dX4_crookedAt.at 15 rfl) lk_X4_49 (S_lt 5 (by decide)) (S_5 nw nx g) rfl rfl (Nat.le_of_ble_eq_true rfl) rfl (Nat.le_refl _) (Nat.le_refl _) ?_
    refine c_X4_isCrooked (v := v) (w := w) (j := j + 0) hv.1 hv.2.1 hv.2.2.1 ?_
    replace hv := hv.2.2.2
    refine sw_if_eq (tgt := 49) (dX4_crookedAt.at 16 rfl) (by decide) (bz_rng _) (fun q => ?_) (fun q => ?_)
    · replace hv := hv.1 (bz_0 q)
      refine sw_iinc (lo' := [some (vr (5)), some (vi (((q0 : Nat) : Int))), some (vi (((i : Nat) : Int))), some (vi (((u : Nat) : Int))), some (vi (((v : Nat) : Int))), some (vi (((w + 1 : Nat) : Int)))]) (dX4_crookedAt.at 27 rfl) rfl (by decide) rfl ?_
      refine sw_goto (tgt := 15) (dX4_crookedAt.at 28 rfl) (by decide) ?_
      exact hv
    · replace hv := hv.2 (bz_n0 q)
      refine sw_iload_n (dX4_crookedAt.at 17 rfl) rfl rfl ?_
      refine sw_iload_n (dX4_crookedAt.at 18 rfl) rfl rfl ?_
      refine sw_icmpN_ne u i (tgt := 46) (dX4_crookedAt.at 19 rfl) (by decide) hv.1 hv.2.1 (fun q => ?_) (fun q => ?_)
      · replace hv := hv.2.2.1 q
        refine sw_iinc (lo' := [some (vr (5)), some (vi (((q0 : Nat) : Int))), some (vi (((i : Nat) : Int))), some (vi (((u + 1 : Nat) : Int))), some (vi (((v : Nat) : Int))), some (vi (((w : Nat) : Int)))]) (dX4_crookedAt.at 26 rfl) rfl (by decide) rfl ?_
        refine sw_iinc (lo' := [some (vr (5)), some (vi (((q0 : Nat) : Int))), some (vi (((i : Nat) : Int))), some (vi (((u + 1 : Nat) : Int))), some (vi (((v : Nat) : Int))), some (vi (((w + 1 : Nat) : Int)))]) (dX4_crookedAt.at 27 rfl) rfl (by decide) rfl ?_
        refine sw_goto (tgt := 15) (dX4_crookedAt.at 28 rfl) (by decide) ?_
        exact hv
      · replace hv := hv.2.2.2 q
        refine sw_bipush (dX4_crookedAt.at 20 rfl) (by decide) ?_
        refine sw_iload (dX4_crookedAt.at 21 rfl) rfl ?_
        refine sw_imul (dX4_crookedAt.at 22 rfl) ?_
        refine sw_topI (y := ((100 * v : Nat) : Int)) (by first | rfl | (congr 1)) ?_
        refine sw_iload (dX4_crookedAt.at 23 rfl) rfl ?_
        refine sw_iadd (dX4_crookedAt.at 24 rfl) ?_
        refine sw_topI (y := (((100 * v) + w : Nat) : Int)) (by first | rfl | (congr 1)) ?_
        exact sw_iret (dX4_crookedAt.at 25 rfl) rfl (Nat.le_refl _) (Nat.le_refl _) hv

set_option maxHeartbeats 4000000 in
theorem lp_X4_crookedAt_15 {G : GG} {j nw nx gn : Nat} {g : Nat → Sh} {c : Nat → Nat → Int} {post : Option AV → AM → Prop} {v : Nat} {k1 : Nat} {q0 : Nat} {i : Nat} (hq : q0 ≤ 60) (hb : ∀ v w k, v < q0 → w < q0 → k < 8 → -2147483648 ≤ c 6 ((v * 60 + w) * 8 + k) ∧ c 6 ((v * 60 + w) * 8 + k) < 2147483648) (hv : v < q0) (hi : i < 2147483648) (hk1 : ∀ u2 : Nat, u2 ≤ v * 60 + 60 → post (some (vi (kall (crS (c 6)) id q0 (i : Int) (fun _ => -1) k1 (v + 1) u2))) (S nw nx g, 78 + gn, c) → SW G (j + 3) mX4_crookedAt 5 [some (vr (5)), some (vi (((q0 : Nat) : Int))), some (vi (((i : Nat) : Int))), some (vi (((u2 : Nat) : Int))), some (vi (((v + 1 : Nat) : Int))), none] [] (S nw nx g, 78 + gn, c) B0 post) : ∀ (k : Nat) (w : Nat) (u : Nat), w + k = q0 → (u ≤ v * 60 + w) → (post (some (vi (krow (crS (c 6) v) v (i : Int) (fun u2 => kall (crS (c 6)) id q0 (i : Int) (fun _ => -1) k1 (v + 1) u2) k w u))) (S nw nx g, 78 + gn, c)) → SW G (j + 3) mX4_crookedAt 15 [some (vr (5)), some (vi (((q0 : Nat) : Int))), some (vi (((i : Nat) : Int))), some (vi (((u : Nat) : Int))), some (vi (((v : Nat) : Int))), some (vi (((w : Nat) : Int)))] [] (S nw nx g, 78 + gn, c) B0 post := by
  intro k
  induction k with
  | zero =>
    intro w u hrel hu K
    rw [krow] at K
    refine g_X4_crookedAt_15 ?_
    refine ⟨?_, ?_, ⟨fun q => ?_, fun q => ⟨?_, ?_, ?_, ⟨fun q => ?_, fun q => ⟨?_, ?_, ⟨fun q => ?_, fun q => ?_⟩⟩⟩⟩⟩⟩
    all_goals first | omega | exact hk1 u (by omega) K | (exfalso; omega)
  | succ k ih =>
    intro w u hrel hu K
    have b9 := fun k => hb v w k hv (show w < q0 by omega)
    simp only [krow, crS] at K
    refine g_X4_crookedAt_15   ?_
    refine ⟨?_, ?_, ⟨fun q => ?_, fun q => ⟨?_, ?_, ?_, ⟨fun q => ?_, fun q => ⟨?_, ?_, ⟨fun q => ?_, fun q => ?_⟩⟩⟩⟩⟩⟩
    all_goals first | omega | assumption | (exfalso; omega) | exact b9 | (simp only [*, if_true, if_false, ite_true, ite_false, Bool.false_eq_true, and_true, true_and, and_false, false_and, and_self, or_true, true_or, or_false, false_or, Bool.and_true, Bool.and_false, Bool.true_and, Bool.false_and, decide_true, decide_false, eq_self, not_true_eq_false, not_false_eq_true, ne_eq, reduceCtorEq, Int.natCast_inj] at K; first | exact K | exact ih _ _ (by omega) (by first | assumption | omega) K) | exact ih _ _ (by omega) (by first | assumption | omega) K

set_option maxHeartbeats 2000000 in
set_option maxRecDepth 20000 in
theorem g_X4_crookedAt_5 {G : GG} {j nw nx gn : Nat} {g : Nat → Sh} {c : Nat → Nat → Int} {post : Option AV → AM → Prop} {q0 : Nat} {i : Nat} {v : Nat} {u : Nat}  (hv : (v < 2147483648) ∧ (q0 < 2147483648) ∧ (((q0 ≤ v) → post (some (vi ((-1)))) (S nw nx g, 78 + gn, c)) ∧ ((¬ (q0 ≤ v)) → SW G (j + 3) mX4_crookedAt 15 [some (vr (5)), some (vi (((q0 : Nat) : Int))), some (vi (((i : Nat) : Int))), some (vi (((u : Nat) : Int))), some (vi (((v : Nat) : Int))), some (vi (((v : Nat) : Int)))] [] (S nw nx g, 78 + gn, c) B0 post))) :
    SW G (j + 3) mX4_crookedAt 5 [some (vr (5)), some (vi (((q0 : Nat) : Int))), some (vi (((i : Nat) : Int))), some (vi (((u : Nat) : Int))), some (vi (((v : Nat) : Int))), none] [] (S nw nx g, 78 + gn, c) B0 post := by
  refine sw_iload (dX4_crookedAt.at 4 rfl) rfl ?_
  refine sw_iload_n (dX4_crookedAt.at 5 rfl) rfl rfl ?_
  refine sw_icmpN_ge v q0 (tgt := 61) (dX4_crookedAt.at 6 rfl) (by decide) hv.1 hv.2.1 (fun q => ?_) (fun q => ?_)
  · replace hv := hv.2.2.1 q
    refine sw_iconst (dX4_crookedAt.at 31 rfl) ?_
    exact sw_iret (dX4_crookedAt.at 32 rfl) rfl (Nat.le_refl _) (Nat.le_refl _) hv
  · replace hv := hv.2.2.2 q
    refine sw_iload (dX4_crookedAt.at 7 rfl) rfl ?_
    refine sw_istore (lo' := [some (vr (5)), some (vi (((q0 : Nat) : Int))), some (vi (((i : Nat) : Int))), some (vi (((u : Nat) : Int))), some (vi (((v : Nat) : Int))), some (vi (((v : Nat) : Int)))]) (dX4_crookedAt.at 8 rfl) (by decide) rfl ?_
    exact hv

set_option maxHeartbeats 4000000 in
theorem lp_X4_crookedAt_5 {G : GG} {j nw nx gn : Nat} {g : Nat → Sh} {c : Nat → Nat → Int} {post : Option AV → AM → Prop} {q0 : Nat} {i : Nat} (hq : q0 ≤ 60) (hb : ∀ v w k, v < q0 → w < q0 → k < 8 → -2147483648 ≤ c 6 ((v * 60 + w) * 8 + k) ∧ c 6 ((v * 60 + w) * 8 + k) < 2147483648) (hi : i < 2147483648) : ∀ (k : Nat) (v : Nat) (u : Nat), v + k = q0 → (u ≤ v * 60) → (post (some (vi (kall (crS (c 6)) id q0 (i : Int) (fun _ => -1) k v u))) (S nw nx g, 78 + gn, c)) → SW G (j + 3) mX4_crookedAt 5 [some (vr (5)), some (vi (((q0 : Nat) : Int))), some (vi (((i : Nat) : Int))), some (vi (((u : Nat) : Int))), some (vi (((v : Nat) : Int))), none] [] (S nw nx g, 78 + gn, c) B0 post := by
  intro k
  induction k with
  | zero =>
    intro v u hrel hu K
    simp only [kall] at K
    refine g_X4_crookedAt_5   ?_
    refine ⟨?_, ?_, ⟨fun q => ?_, fun q => ?_⟩⟩
    all_goals first | omega | exact K | (exfalso; omega) | (simp only [*, if_true, if_false, ite_true, ite_false, Bool.false_eq_true, and_true, true_and, and_false, false_and, and_self, or_true, true_or, or_false, false_or, Bool.and_true, Bool.and_false, Bool.true_and, Bool.false_and, decide_true, decide_false, eq_self, not_true_eq_false, not_false_eq_true, ne_eq, reduceCtorEq] at K; exact K)
  | succ k ih =>
    intro v u hrel hu K
    rw [kall] at K
    refine g_X4_crookedAt_5 ?_
    refine ⟨?_, ?_, ⟨fun q => ?_, fun q => ?_⟩⟩
    all_goals first | omega | (exfalso; omega) | exact lp_X4_crookedAt_15 hq hb (by omega) hi (fun u2 h1 h2 => ih _ _ (by omega) (by omega) h2) (q0 - v) v u (by omega) (by omega) K

set_option maxHeartbeats 2000000 in
set_option maxRecDepth 20000 in
theorem g_X4_crookedAt_0 {G : GG} {j nw nx gn : Nat} {g : Nat → Sh} {c : Nat → Nat → Int} {post : Option AV → AM → Prop} {q0 : Nat} {i : Nat}  (hv : SW G (j + 3) mX4_crookedAt 5 [some (vr (5)), some (vi (((q0 : Nat) : Int))), some (vi (((i : Nat) : Int))), some (vi (0)), some (vi (0)), none] [] (S nw nx g, 78 + gn, c) B0 post) :
    SW G (j + 3) mX4_crookedAt 0 [some (vr (5)), some (vi (((q0 : Nat) : Int))), some (vi (((i : Nat) : Int))), none, none, none] [] (S nw nx g, 78 + gn, c) B0 post := by
  refine sw_iconst (dX4_crookedAt.at 0 rfl) ?_
  refine sw_istore_n (lo' := [some (vr (5)), some (vi (((q0 : Nat) : Int))), some (vi (((i : Nat) : Int))), some (vi (0)), none, none]) (dX4_crookedAt.at 1 rfl) rfl (by decide) rfl ?_
  refine sw_iconst (dX4_crookedAt.at 2 rfl) ?_
  refine sw_istore (lo' := [some (vr (5)), some (vi (((q0 : Nat) : Int))), some (vi (((i : Nat) : Int))), some (vi (0)), some (vi (0)), none]) (dX4_crookedAt.at 3 rfl) (by decide) rfl ?_
  exact hv

set_option maxHeartbeats 2000000 in
theorem c_X4_crookedAt {G : GG} {j nw nx gn : Nat} {g : Nat → Sh} {c : Nat → Nat → Int} {post : Option AV → AM → Prop} {q0 : Nat} {i : Nat} (p1 : q0 ≤ 60) (p2 : ∀ v w k, v < q0 → w < q0 → k < 8 → -2147483648 ≤ c 6 ((v * 60 + w) * 8 + k) ∧ c 6 ((v * 60 + w) * 8 + k) < 2147483648) (p3 : i < 2147483648) (K : post (some (vi (kall (crS (c 6)) id q0 (i : Int) (fun _ => -1) q0 0 0))) (S nw nx g, 78 + gn, c)) : SM G (j + 4) mX4_crookedAt [vr (5), vi (((q0 : Nat) : Int)), vi (((i : Nat) : Int))] (S nw nx g, 78 + gn, c) 0 0 post := by
  refine sm_of wX4_crookedAt rfl (Nat.le_of_ble_eq_true rfl) ?_
  refine g_X4_crookedAt_0  ?_
  exact lp_X4_crookedAt_5 p1 p2 p3 q0 0 0 (by omega) (by omega) K

set_option maxHeartbeats 2000000 in
set_option maxRecDepth 20000 in
theorem g_X4_crookedUpTo_12 {G : GG} {j nw nx gn : Nat} {g : Nat → Sh} {c : Nat → Nat → Int} {post : Option AV → AM → Prop} {q0 : Nat} {v : Nat} {w : Nat} {u : Nat}  (hv : (w < 2147483648) ∧ (q0 < 2147483648) ∧ (((q0 ≤ w) → SW G (j + 3) mX4_crookedUpTo 4 [some (vr (5)), some (vi (((q0 : Nat) : Int))), some (vi (((u : Nat) : Int))), some (vi (((v + 1 : Nat) : Int))), none] [] (S nw nx g, 78 + gn, c) B0 post) ∧ ((¬ (q0 ≤ w)) → (v < 60) ∧ (w < 60) ∧ (∀ k, k < 8 → -2147483648 ≤ c 6 ((v * 60 + w) * 8 + k) ∧ c 6 ((v * 60 + w) * 8 + k) < 2147483648) ∧ ((((decide (0 < hpF (c 6) ((v * 60 + w) * 8) 8)) = false) → SW G (j + 3) mX4_crookedUpTo 12 [some (vr (5)), some (vi (((q0 : Nat) : Int))), some (vi (((u : Nat) : Int))), some (vi (((v : Nat) : Int))), some (vi (((w + 1 : Nat) : Int)))] [] (S nw nx g, 78 + gn, c) B0 post) ∧ (((decide (0 < hpF (c 6) ((v * 60 + w) * 8) 8)) = true) → SW G (j + 3) mX4_crookedUpTo 12 [some (vr (5)), some (vi (((q0 : Nat) : Int))), some (vi (((u + 1 : Nat) : Int))), some (vi (((v : Nat) : Int))), some (vi (((w + 1 : Nat) : Int)))] [] (S nw nx g, 78 + gn, c) B0 post))))) :
    SW G (j + 3) mX4_crookedUpTo 12 [some (vr (5)), some (vi (((q0 : Nat) : Int))), some (vi (((u : Nat) : Int))), some (vi (((v : Nat) : Int))), some (vi (((w : Nat) : Int)))] [] (S nw nx g, 78 + gn, c) B0 post := by
  refine sw_iload (dX4_crookedUpTo.at 9 rfl) rfl ?_
  refine sw_iload_n (dX4_crookedUpTo.at 10 rfl) rfl rfl ?_
  refine sw_icmpN_ge w q0 (tgt := 37) (dX4_crookedUpTo.at 11 rfl) (by decide) hv.1 hv.2.1 (fun q => ?_) (fun q => ?_)
  · replace hv := hv.2.2.1 q
    refine sw_iinc (lo' := [some (vr (5)), some (vi (((q0 : Nat) : Int))), some (vi (((u : Nat) : Int))), some (vi (((v + 1 : Nat) : Int))), some (vi (((w : Nat) : Int)))]) (dX4_crookedUpTo.at 20 rfl) rfl (by decide) rfl ?_
    refine sw_goto (tgt := 4) (dX4_crookedUpTo.at 21 rfl) (by decide) ?_
    exact sw_mask (bs := [true, true, true, true, false]) hv
  · replace hv := hv.2.2.2 q
    refine sw_aload_n (dX4_crookedUpTo.at 12 rfl) rfl rfl ?_
    refine sw_iload_n (dX4_crookedUpTo.at 13 rfl) rfl rfl ?_
    refine sw_iload (dX4_crookedUpTo.at 14 rfl) rfl ?_
    refine sw_callV (B' := B0) (As := [vi (((v : Nat) : Int)), vi (((w : Nat) : Int))]) (mc := 0) (ms := 0) (dX4_crookedUpTo.at 15 rfl) lk_X4_49 (S_lt 5 (by decide)) (S_5 nw nx g) rfl rfl (Nat.le_of_ble_eq_true rfl) rfl (Nat.le_refl _) (Nat.le_refl _) ?_
    refine c_X4_isCrooked (v := v) (w := w) (j := j + 0) hv.1 hv.2.1 hv.2.2.1 ?_
    replace hv := hv.2.2.2
    refine sw_if_eq (tgt := 31) (dX4_crookedUpTo.at 16 rfl) (by decide) (bz_rng _) (fun q => ?_) (fun q => ?_)
    · replace hv := hv.1 (bz_0 q)
      refine sw_iinc (lo' := [some (vr (5)), some (vi (((q0 : Nat) : Int))), some (vi (((u : Nat) : Int))), some (vi (((v : Nat) : Int))), some (vi (((w + 1 : Nat) : Int)))]) (dX4_crookedUpTo.at 18 rfl) rfl (by decide) rfl ?_
      refine sw_goto (tgt := 12) (dX4_crookedUpTo.at 19 rfl) (by decide) ?_
      exact hv
    · replace hv := hv.2 (bz_n0 q)
      refine sw_iinc (lo' := [some (vr (5)), some (vi (((q0 : Nat) : Int))), some (vi (((u + 1 : Nat) : Int))), some (vi (((v : Nat) : Int))), some (vi (((w : Nat) : Int)))]) (dX4_crookedUpTo.at 17 rfl) rfl (by decide) rfl ?_
      refine sw_iinc (lo' := [some (vr (5)), some (vi (((q0 : Nat) : Int))), some (vi (((u + 1 : Nat) : Int))), some (vi (((v : Nat) : Int))), some (vi (((w + 1 : Nat) : Int)))]) (dX4_crookedUpTo.at 18 rfl) rfl (by decide) rfl ?_
      refine sw_goto (tgt := 12) (dX4_crookedUpTo.at 19 rfl) (by decide) ?_
      exact hv

set_option maxHeartbeats 4000000 in
theorem lp_X4_crookedUpTo_12 {G : GG} {j nw nx gn : Nat} {g : Nat → Sh} {c : Nat → Nat → Int} {post : Option AV → AM → Prop} {v : Nat} {k1 : Nat} {q0 : Nat} (hq : q0 ≤ 60) (hb : ∀ v w k, v < q0 → w < q0 → k < 8 → -2147483648 ≤ c 6 ((v * 60 + w) * 8 + k) ∧ c 6 ((v * 60 + w) * 8 + k) < 2147483648) (hv : v < q0) (hk1 : ∀ u2 : Nat, u2 ≤ v * 60 + 60 → post (some (vi (kall (crS (c 6)) id q0 (-1) (fun u => (u : Int)) k1 (v + 1) u2))) (S nw nx g, 78 + gn, c) → SW G (j + 3) mX4_crookedUpTo 4 [some (vr (5)), some (vi (((q0 : Nat) : Int))), some (vi (((u2 : Nat) : Int))), some (vi (((v + 1 : Nat) : Int))), none] [] (S nw nx g, 78 + gn, c) B0 post) : ∀ (k : Nat) (w : Nat) (u : Nat), w + k = q0 → (u ≤ v * 60 + w) → (post (some (vi (krow (crS (c 6) v) v (-1) (fun u2 => kall (crS (c 6)) id q0 (-1) (fun u => (u : Int)) k1 (v + 1) u2) k w u))) (S nw nx g, 78 + gn, c)) → SW G (j + 3) mX4_crookedUpTo 12 [some (vr (5)), some (vi (((q0 : Nat) : Int))), some (vi (((u : Nat) : Int))), some (vi (((v : Nat) : Int))), some (vi (((w : Nat) : Int)))] [] (S nw nx g, 78 + gn, c) B0 post := by
  intro k
  induction k with
  | zero =>
    intro w u hrel hu K
    rw [krow] at K
    refine g_X4_crookedUpTo_12 ?_
    refine ⟨?_, ?_, ⟨fun q => ?_, fun q => ⟨?_, ?_, ?_, ⟨fun q => ?_, fun q => ?_⟩⟩⟩⟩
    all_goals first | omega | exact hk1 u (by omega) K | (exfalso; omega)
  | succ k ih =>
    intro w u hrel hu K
    have b9 := fun k => hb v w k hv (show w < q0 by omega)
    have e9 : ¬ ((u : Int) = -1) := by omega
    simp only [krow, crS] at K
    refine g_X4_crookedUpTo_12   ?_
    refine ⟨?_, ?_, ⟨fun q => ?_, fun q => ⟨?_, ?_, ?_, ⟨fun q => ?_, fun q => ?_⟩⟩⟩⟩
    all_goals first | omega | assumption | (exfalso; omega) | exact b9 | (simp only [*, if_true, if_false, ite_true, ite_false, Bool.false_eq_true, and_true, true_and, and_false, false_and, and_self, or_true, true_or, or_false, false_or, Bool.and_true, Bool.and_false, Bool.true_and, Bool.false_and, decide_true, decide_false, eq_self, not_true_eq_false, not_false_eq_true, ne_eq, reduceCtorEq] at K; first | exact K | exact ih _ _ (by omega) (by first | assumption | omega) K) | exact ih _ _ (by omega) (by first | assumption | omega) K

set_option maxHeartbeats 2000000 in
set_option maxRecDepth 20000 in
theorem g_X4_crookedUpTo_4 {G : GG} {j nw nx gn : Nat} {g : Nat → Sh} {c : Nat → Nat → Int} {post : Option AV → AM → Prop} {q0 : Nat} {v : Nat} {u : Nat}  (hv : (v < 2147483648) ∧ (q0 < 2147483648) ∧ (((q0 ≤ v) → post (some (vi (((u : Nat) : Int)))) (S nw nx g, 78 + gn, c)) ∧ ((¬ (q0 ≤ v)) → SW G (j + 3) mX4_crookedUpTo 12 [some (vr (5)), some (vi (((q0 : Nat) : Int))), some (vi (((u : Nat) : Int))), some (vi (((v : Nat) : Int))), some (vi (((v : Nat) : Int)))] [] (S nw nx g, 78 + gn, c) B0 post))) :
    SW G (j + 3) mX4_crookedUpTo 4 [some (vr (5)), some (vi (((q0 : Nat) : Int))), some (vi (((u : Nat) : Int))), some (vi (((v : Nat) : Int))), none] [] (S nw nx g, 78 + gn, c) B0 post := by
  refine sw_iload_n (dX4_crookedUpTo.at 4 rfl) rfl rfl ?_
  refine sw_iload_n (dX4_crookedUpTo.at 5 rfl) rfl rfl ?_
  refine sw_icmpN_ge v q0 (tgt := 43) (dX4_crookedUpTo.at 6 rfl) (by decide) hv.1 hv.2.1 (fun q => ?_) (fun q => ?_)
  · replace hv := hv.2.2.1 q
    refine sw_iload_n (dX4_crookedUpTo.at 22 rfl) rfl rfl ?_
    exact sw_iret (dX4_crookedUpTo.at 23 rfl) rfl (Nat.le_refl _) (Nat.le_refl _) hv
  · replace hv := hv.2.2.2 q
    refine sw_iload_n (dX4_crookedUpTo.at 7 rfl) rfl rfl ?_
    refine sw_istore (lo' := [some (vr (5)), some (vi (((q0 : Nat) : Int))), some (vi (((u : Nat) : Int))), some (vi (((v : Nat) : Int))), some (vi (((v : Nat) : Int)))]) (dX4_crookedUpTo.at 8 rfl) (by decide) rfl ?_
    exact hv

set_option maxHeartbeats 4000000 in
theorem lp_X4_crookedUpTo_4 {G : GG} {j nw nx gn : Nat} {g : Nat → Sh} {c : Nat → Nat → Int} {post : Option AV → AM → Prop} {q0 : Nat} (hq : q0 ≤ 60) (hb : ∀ v w k, v < q0 → w < q0 → k < 8 → -2147483648 ≤ c 6 ((v * 60 + w) * 8 + k) ∧ c 6 ((v * 60 + w) * 8 + k) < 2147483648) : ∀ (k : Nat) (v : Nat) (u : Nat), v + k = q0 → (u ≤ v * 60) → (post (some (vi (kall (crS (c 6)) id q0 (-1) (fun u => (u : Int)) k v u))) (S nw nx g, 78 + gn, c)) → SW G (j + 3) mX4_crookedUpTo 4 [some (vr (5)), some (vi (((q0 : Nat) : Int))), some (vi (((u : Nat) : Int))), some (vi (((v : Nat) : Int))), none] [] (S nw nx g, 78 + gn, c) B0 post := by
  intro k
  induction k with
  | zero =>
    intro v u hrel hu K
    simp only [kall] at K
    refine g_X4_crookedUpTo_4   ?_
    refine ⟨?_, ?_, ⟨fun q => ?_, fun q => ?_⟩⟩
    all_goals first | omega | exact K | (exfalso; omega) | (simp only [*, if_true, if_false, ite_true, ite_false, Bool.false_eq_true, and_true, true_and, and_false, false_and, and_self, or_true, true_or, or_false, false_or, Bool.and_true, Bool.and_false, Bool.true_and, Bool.false_and, decide_true, decide_false, eq_self, not_true_eq_false, not_false_eq_true, ne_eq, reduceCtorEq] at K; exact K)
  | succ k ih =>
    intro v u hrel hu K
    rw [kall] at K
    refine g_X4_crookedUpTo_4 ?_
    refine ⟨?_, ?_, ⟨fun q => ?_, fun q => ?_⟩⟩
    all_goals first | omega | (exfalso; omega) | exact lp_X4_crookedUpTo_12 hq hb (by omega) (fun u2 h1 h2 => ih _ _ (by omega) (by omega) h2) (q0 - v) v u (by omega) (by omega) K

set_option maxHeartbeats 2000000 in
set_option maxRecDepth 20000 in
theorem g_X4_crookedUpTo_0 {G : GG} {j nw nx gn : Nat} {g : Nat → Sh} {c : Nat → Nat → Int} {post : Option AV → AM → Prop} {q0 : Nat}  (hv : SW G (j + 3) mX4_crookedUpTo 4 [some (vr (5)), some (vi (((q0 : Nat) : Int))), some (vi (0)), some (vi (0)), none] [] (S nw nx g, 78 + gn, c) B0 post) :
    SW G (j + 3) mX4_crookedUpTo 0 [some (vr (5)), some (vi (((q0 : Nat) : Int))), none, none, none] [] (S nw nx g, 78 + gn, c) B0 post := by
  refine sw_iconst (dX4_crookedUpTo.at 0 rfl) ?_
  refine sw_istore_n (lo' := [some (vr (5)), some (vi (((q0 : Nat) : Int))), some (vi (0)), none, none]) (dX4_crookedUpTo.at 1 rfl) rfl (by decide) rfl ?_
  refine sw_iconst (dX4_crookedUpTo.at 2 rfl) ?_
  refine sw_istore_n (lo' := [some (vr (5)), some (vi (((q0 : Nat) : Int))), some (vi (0)), some (vi (0)), none]) (dX4_crookedUpTo.at 3 rfl) rfl (by decide) rfl ?_
  exact hv

set_option maxHeartbeats 2000000 in
theorem c_X4_crookedUpTo {G : GG} {j nw nx gn : Nat} {g : Nat → Sh} {c : Nat → Nat → Int} {post : Option AV → AM → Prop} {q0 : Nat} (p1 : q0 ≤ 60) (p2 : ∀ v w k, v < q0 → w < q0 → k < 8 → -2147483648 ≤ c 6 ((v * 60 + w) * 8 + k) ∧ c 6 ((v * 60 + w) * 8 + k) < 2147483648) (K : post (some (vi (kall (crS (c 6)) id q0 (-1) (fun u => (u : Int)) q0 0 0))) (S nw nx g, 78 + gn, c)) : SM G (j + 4) mX4_crookedUpTo [vr (5), vi (((q0 : Nat) : Int))] (S nw nx g, 78 + gn, c) 0 0 post := by
  refine sm_of wX4_crookedUpTo rfl (Nat.le_of_ble_eq_true rfl) ?_
  refine g_X4_crookedUpTo_0  ?_
  exact lp_X4_crookedUpTo_4 p1 p2 q0 0 0 (by omega) (by omega) K

def q_crooked (P : GD) (T : PT) : Int := if gN P = 0 then -2 else kall (crT T) id (gN P) (-1) (fun u => (u : Int)) (gN P) 0 0
def q_crookedPair (P : GD) (T : PT) (i : Int) : Int := if ¬ gN P = 0 ∧ 0 ≤ i then kall (crT T) id (gN P) i (fun _ => -1) (gN P) 0 0 else -2
theorem cr_T {P : GD} {T : PT} {f : Nat → Int} (h : AT P T (gN P) f) : ∀ v w, v < gN P → w < gN P → crS f v w = crT T v w := by
  intro v w hv hw
  rw [crS, crT, hp_T h hv hw]
set_option maxHeartbeats 2000000 in
set_option maxRecDepth 20000 in
theorem g_X8_crooked_0 {G : GG} {j nw nx gn : Nat} {g : Nat → Sh} {c : Nat → Nat → Int} {post : Option AV → AM → Prop} {P : GD} {T : PT} (hnw : nw = 21 ∨ nw = 35) (hE : EL c nw P) (hV : GV P) (hT : HT P T) (hR : PR P T c)  (hv : (gN P < 2147483648) ∧ (((gN P ≠ 0) → (PR P T c) ∧ (∀ c_1 : Nat → Nat → Int, ((∀ a, a ≠ 5 → a ≠ 6 → c_1 a = c a) ∧ c_1 5 1 = 1 ∧ AT P T (gN P) (c_1 6)) → ((gN P) ≤ 60) ∧ (∀ v w k, v < (gN P) → w < (gN P) → k < 8 → -2147483648 ≤ c_1 6 ((v * 60 + w) * 8 + k) ∧ c_1 6 ((v * 60 + w) * 8 + k) < 2147483648) ∧ (post (some (vi (kall (crS (c_1 6)) id (gN P) (-1) (fun u => (u : Int)) (gN P) 0 0))) (S nw nx g, 78 + gn, c_1)))) ∧ ((gN P = 0) → post (some (vi ((-2)))) (S nw nx g, 78 + gn, c)))) :
    SW G (j + 5) mX8_crooked 0 [some (vr (0))] [] (S nw nx g, 78 + gn, c) B0 post := by
  refine sw_aload_n (dX8_crooked.at 0 rfl) rfl rfl ?_
  refine sw_getR (dX8_crooked.at 1 rfl) fp_X8_65 (S_lt 0 (by decide)) (S_0 nw nx g) rfl rfl ?_
  refine sw_getIE (w := ((gN P : Nat) : Int)) (dX8_crooked.at 2 rfl) fp_X8_103 (S_e_lt hnw) (S_e hnw) rfl (EL_N hE) ?_
  refine sw_ifN_ne (gN P) (tgt := 13) (dX8_crooked.at 3 rfl) (by decide) hv.1 (fun q => ?_) (fun q => ?_)
  · replace hv := hv.2.1 q
    refine sw_aload_n (dX8_crooked.at 6 rfl) rfl rfl ?_
    refine sw_getR (dX8_crooked.at 7 rfl) fp_X8_26 (S_lt 0 (by decide)) (S_0 nw nx g) rfl rfl ?_
    refine sw_aload_n (dX8_crooked.at 8 rfl) rfl rfl ?_
    refine sw_getR (dX8_crooked.at 9 rfl) fp_X8_65 (S_lt 0 (by decide)) (S_0 nw nx g) rfl rfl ?_
    refine sw_callV (B' := B0) (As := [vr (nw)]) (mc := 0) (ms := 0) (dX8_crooked.at 10 rfl) lk_X8_204 (S_lt 5 (by decide)) (S_5 nw nx g) rfl rfl (Nat.le_of_ble_eq_true rfl) rfl (Nat.le_refl _) (Nat.le_refl _) ?_
    refine c_X4_prepare (e := nw) (j := j + 0) hnw hE hV hT hv.1 (fun c_1 h_1 => ?_)
    replace hv := hv.2 c_1 h_1
    refine sw_aload_n (dX8_crooked.at 11 rfl) rfl rfl ?_
    refine sw_getR (dX8_crooked.at 12 rfl) fp_X8_26 (S_lt 0 (by decide)) (S_0 nw nx g) rfl rfl ?_
    refine sw_aload_n (dX8_crooked.at 13 rfl) rfl rfl ?_
    refine sw_getR (dX8_crooked.at 14 rfl) fp_X8_65 (S_lt 0 (by decide)) (S_0 nw nx g) rfl rfl ?_
    refine sw_getIE (w := ((gN P : Nat) : Int)) (dX8_crooked.at 15 rfl) fp_X8_103 (S_e_lt hnw) (S_e hnw) rfl (EL_N (EL_same hE (fun q hq => h_1.1 _ (by omega) (by omega)))) ?_
    refine sw_callV (B' := B0) (As := [vi (((gN P : Nat) : Int))]) (mc := 0) (ms := 0) (dX8_crooked.at 16 rfl) lk_X8_229 (S_lt 5 (by decide)) (S_5 nw nx g) rfl rfl (Nat.le_of_ble_eq_true rfl) rfl (Nat.le_refl _) (Nat.le_refl _) ?_
    refine c_X4_crookedUpTo (q0 := (gN P)) (j := j + 1) hv.1 hv.2.1 ?_
    replace hv := hv.2.2
    exact sw_iret (dX8_crooked.at 17 rfl) rfl (Nat.le_refl _) (Nat.le_refl _) hv
  · replace hv := hv.2.2 q
    refine sw_bipush (dX8_crooked.at 4 rfl) (by decide) ?_
    exact sw_iret (dX8_crooked.at 5 rfl) rfl (Nat.le_refl _) (Nat.le_refl _) hv

set_option maxHeartbeats 2000000 in
theorem c_X8_crooked {G : GG} {j nw nx gn : Nat} {g : Nat → Sh} {c : Nat → Nat → Int} {post : Option AV → AM → Prop} {P : GD} {T : PT} (hnw : nw = 21 ∨ nw = 35) (hE : EL c nw P) (hV : GV P) (hT : HT P T) (hR : PR P T c) (K : ∀ c2 : Nat → Nat → Int, ((∀ a, a ≠ 5 → a ≠ 6 → c2 a = c a) ∧ PR P T c2) → post (some (vi (q_crooked P T))) (S nw nx g, 78 + gn, c2)) : SM G (j + 6) mX8_crooked [vr 0] (S nw nx g, 78 + gn, c) 0 0 post := by
  refine sm_of wX8_crooked rfl (Nat.le_of_ble_eq_true rfl) ?_
  have h60 := GV_N hV
  refine g_X8_crooked_0 hnw hE hV hT hR ?_
  by_cases h0 : gN P = 0
  · rw [q_crooked, if_pos h0] at K
    have K0 := K c ⟨fun _ _ _ => rfl, hR⟩
    refine ⟨?_, ⟨fun q => ⟨?_, fun c_1 h_1 => ⟨?_, ?_, ?_⟩⟩, fun q => ?_⟩⟩
    all_goals first | exact K0 | omega | assumption | (exfalso; omega)
  · rw [q_crooked, if_neg h0] at K
    refine ⟨?_, ⟨fun q => ⟨?_, fun c_1 h_1 => ⟨?_, ?_, ?_⟩⟩, fun q => ?_⟩⟩
    all_goals first | omega | assumption | exact fun v w k hv hw => AT_rng hT h_1.2.2 hv hw k | (have K2 := K c_1 ⟨h_1.1, Or.inr h_1.2⟩; rw [kall_cong (lo := id) (cr_T h_1.2.2) _ _ _ (by omega) (Nat.zero_le _) (fun v => Nat.le_refl v)]; exact K2)

set_option maxHeartbeats 2000000 in
set_option maxRecDepth 20000 in
theorem g_X8_crookedPair_0n {G : GG} {j nw nx gn : Nat} {g : Nat → Sh} {c : Nat → Nat → Int} {post : Option AV → AM → Prop} {i : Nat} {P : GD} {T : PT} (hnw : nw = 21 ∨ nw = 35) (hE : EL c nw P) (hV : GV P) (hT : HT P T) (hR : PR P T c)  (hv : (gN P < 2147483648) ∧ (((gN P = 0) → post (some (vi ((-2)))) (S nw nx g, 78 + gn, c)) ∧ ((¬ (gN P = 0)) → (i < 2147483648) ∧ (((0 ≤ ((i : Nat) : Int)) → (PR P T c) ∧ (∀ c_1 : Nat → Nat → Int, ((∀ a, a ≠ 5 → a ≠ 6 → c_1 a = c a) ∧ c_1 5 1 = 1 ∧ AT P T (gN P) (c_1 6)) → ((gN P) ≤ 60) ∧ (∀ v w k, v < (gN P) → w < (gN P) → k < 8 → -2147483648 ≤ c_1 6 ((v * 60 + w) * 8 + k) ∧ c_1 6 ((v * 60 + w) * 8 + k) < 2147483648) ∧ (i < 2147483648) ∧ (post (some (vi (kall (crS (c_1 6)) id (gN P) (i : Int) (fun _ => -1) (gN P) 0 0))) (S nw nx g, 78 + gn, c_1)))) ∧ ((¬ (0 ≤ ((i : Nat) : Int))) → post (some (vi ((-2)))) (S nw nx g, 78 + gn, c)))))) :
    SW G (j + 5) mX8_crookedPair 0 [some (vr (0)), some (vi (((i : Nat) : Int)))] [] (S nw nx g, 78 + gn, c) B0 post := by
  refine sw_aload_n (dX8_crookedPair.at 0 rfl) rfl rfl ?_
  refine sw_getR (dX8_crookedPair.at 1 rfl) fp_X8_65 (S_lt 0 (by decide)) (S_0 nw nx g) rfl rfl ?_
  refine sw_getIE (w := ((gN P : Nat) : Int)) (dX8_crookedPair.at 2 rfl) fp_X8_103 (S_e_lt hnw) (S_e hnw) rfl (EL_N hE) ?_
  refine sw_ifN_eq (gN P) (tgt := 14) (dX8_crookedPair.at 3 rfl) (by decide) hv.1 (fun q => ?_) (fun q => ?_)
  · replace hv := hv.2.1 q
    refine sw_bipush (dX8_crookedPair.at 6 rfl) (by decide) ?_
    exact sw_iret (dX8_crookedPair.at 7 rfl) rfl (Nat.le_refl _) (Nat.le_refl _) hv
  · replace hv := hv.2.2 q
    refine sw_iload_n (dX8_crookedPair.at 4 rfl) rfl rfl ?_
    refine sw_if_ge (tgt := 17) (dX8_crookedPair.at 5 rfl) (by decide) (nrng hv.1) (fun q => ?_) (fun q => ?_)
    · replace hv := hv.2.1 q
      refine sw_aload_n (dX8_crookedPair.at 8 rfl) rfl rfl ?_
      refine sw_getR (dX8_crookedPair.at 9 rfl) fp_X8_26 (S_lt 0 (by decide)) (S_0 nw nx g) rfl rfl ?_
      refine sw_aload_n (dX8_crookedPair.at 10 rfl) rfl rfl ?_
      refine sw_getR (dX8_crookedPair.at 11 rfl) fp_X8_65 (S_lt 0 (by decide)) (S_0 nw nx g) rfl rfl ?_
      refine sw_callV (B' := B0) (As := [vr (nw)]) (mc := 0) (ms := 0) (dX8_crookedPair.at 12 rfl) lk_X8_204 (S_lt 5 (by decide)) (S_5 nw nx g) rfl rfl (Nat.le_of_ble_eq_true rfl) rfl (Nat.le_refl _) (Nat.le_refl _) ?_
      refine c_X4_prepare (e := nw) (j := j + 0) hnw hE hV hT hv.1 (fun c_1 h_1 => ?_)
      replace hv := hv.2 c_1 h_1
      refine sw_aload_n (dX8_crookedPair.at 13 rfl) rfl rfl ?_
      refine sw_getR (dX8_crookedPair.at 14 rfl) fp_X8_26 (S_lt 0 (by decide)) (S_0 nw nx g) rfl rfl ?_
      refine sw_aload_n (dX8_crookedPair.at 15 rfl) rfl rfl ?_
      refine sw_getR (dX8_crookedPair.at 16 rfl) fp_X8_65 (S_lt 0 (by decide)) (S_0 nw nx g) rfl rfl ?_
      refine sw_getIE (w := ((gN P : Nat) : Int)) (dX8_crookedPair.at 17 rfl) fp_X8_103 (S_e_lt hnw) (S_e hnw) rfl (EL_N (EL_same hE (fun q hq => h_1.1 _ (by omega) (by omega)))) ?_
      refine sw_iload_n (dX8_crookedPair.at 18 rfl) rfl rfl ?_
      refine sw_callV (B' := B0) (As := [vi (((gN P : Nat) : Int)), vi (((i : Nat) : Int))]) (mc := 0) (ms := 0) (dX8_crookedPair.at 19 rfl) lk_X8_232 (S_lt 5 (by decide)) (S_5 nw nx g) rfl rfl (Nat.le_of_ble_eq_true rfl) rfl (Nat.le_refl _) (Nat.le_refl _) ?_
      refine c_X4_crookedAt (q0 := (gN P)) (i := i) (j := j + 1) hv.1 hv.2.1 hv.2.2.1 ?_
      replace hv := hv.2.2.2
      exact sw_iret (dX8_crookedPair.at 20 rfl) rfl (Nat.le_refl _) (Nat.le_refl _) hv
    · replace hv := hv.2.2 q
      refine sw_bipush (dX8_crookedPair.at 6 rfl) (by decide) ?_
      exact sw_iret (dX8_crookedPair.at 7 rfl) rfl (Nat.le_refl _) (Nat.le_refl _) hv

set_option maxHeartbeats 2000000 in
set_option maxRecDepth 20000 in
theorem g_X8_crookedPair_0 {G : GG} {j nw nx gn : Nat} {g : Nat → Sh} {c : Nat → Nat → Int} {post : Option AV → AM → Prop} {i : Int} {P : GD} {T : PT} (hnw : nw = 21 ∨ nw = 35) (hE : EL c nw P) (hV : GV P) (hT : HT P T) (hR : PR P T c)  (hv : (gN P < 2147483648) ∧ (((gN P = 0) → post (some (vi ((-2)))) (S nw nx g, 78 + gn, c)) ∧ ((¬ (gN P = 0)) → (-2147483648 ≤ i ∧ i < 2147483648) ∧ (((0 ≤ i) → (PR P T c) ∧ (∀ c_1 : Nat → Nat → Int, ((∀ a, a ≠ 5 → a ≠ 6 → c_1 a = c a) ∧ c_1 5 1 = 1 ∧ AT P T (gN P) (c_1 6)) → SW G (j + 5) mX8_crookedPair 40 [some (vr (0)), some (vi (i))] [vi (i), vi (((gN P : Nat) : Int)), vr (5)] (S nw nx g, 78 + gn, c_1) B0 post)) ∧ ((¬ (0 ≤ i)) → post (some (vi ((-2)))) (S nw nx g, 78 + gn, c)))))) :
    SW G (j + 5) mX8_crookedPair 0 [some (vr (0)), some (vi (i))] [] (S nw nx g, 78 + gn, c) B0 post := by
  refine sw_aload_n (dX8_crookedPair.at 0 rfl) rfl rfl ?_
  refine sw_getR (dX8_crookedPair.at 1 rfl) fp_X8_65 (S_lt 0 (by decide)) (S_0 nw nx g) rfl rfl ?_
  refine sw_getIE (w := ((gN P : Nat) : Int)) (dX8_crookedPair.at 2 rfl) fp_X8_103 (S_e_lt hnw) (S_e hnw) rfl (EL_N hE) ?_
  refine sw_ifN_eq (gN P) (tgt := 14) (dX8_crookedPair.at 3 rfl) (by decide) hv.1 (fun q => ?_) (fun q => ?_)
  · replace hv := hv.2.1 q
    refine sw_bipush (dX8_crookedPair.at 6 rfl) (by decide) ?_
    exact sw_iret (dX8_crookedPair.at 7 rfl) rfl (Nat.le_refl _) (Nat.le_refl _) hv
  · replace hv := hv.2.2 q
    refine sw_iload_n (dX8_crookedPair.at 4 rfl) rfl rfl ?_
    refine sw_if_ge (tgt := 17) (dX8_crookedPair.at 5 rfl) (by decide) hv.1 (fun q => ?_) (fun q => ?_)
    · replace hv := hv.2.1 q
      refine sw_aload_n (dX8_crookedPair.at 8 rfl) rfl rfl ?_
      refine sw_getR (dX8_crookedPair.at 9 rfl) fp_X8_26 (S_lt 0 (by decide)) (S_0 nw nx g) rfl rfl ?_
      refine sw_aload_n (dX8_crookedPair.at 10 rfl) rfl rfl ?_
      refine sw_getR (dX8_crookedPair.at 11 rfl) fp_X8_65 (S_lt 0 (by decide)) (S_0 nw nx g) rfl rfl ?_
      refine sw_callV (B' := B0) (As := [vr (nw)]) (mc := 0) (ms := 0) (dX8_crookedPair.at 12 rfl) lk_X8_204 (S_lt 5 (by decide)) (S_5 nw nx g) rfl rfl (Nat.le_of_ble_eq_true rfl) rfl (Nat.le_refl _) (Nat.le_refl _) ?_
      refine c_X4_prepare (e := nw) (j := j + 0) hnw hE hV hT hv.1 (fun c_1 h_1 => ?_)
      replace hv := hv.2 c_1 h_1
      refine sw_aload_n (dX8_crookedPair.at 13 rfl) rfl rfl ?_
      refine sw_getR (dX8_crookedPair.at 14 rfl) fp_X8_26 (S_lt 0 (by decide)) (S_0 nw nx g) rfl rfl ?_
      refine sw_aload_n (dX8_crookedPair.at 15 rfl) rfl rfl ?_
      refine sw_getR (dX8_crookedPair.at 16 rfl) fp_X8_65 (S_lt 0 (by decide)) (S_0 nw nx g) rfl rfl ?_
      refine sw_getIE (w := ((gN P : Nat) : Int)) (dX8_crookedPair.at 17 rfl) fp_X8_103 (S_e_lt hnw) (S_e hnw) rfl (EL_N (EL_same hE (fun q hq => h_1.1 _ (by omega) (by omega)))) ?_
      refine sw_iload_n (dX8_crookedPair.at 18 rfl) rfl rfl ?_
      exact hv
    · replace hv := hv.2.2 q
      refine sw_bipush (dX8_crookedPair.at 6 rfl) (by decide) ?_
      exact sw_iret (dX8_crookedPair.at 7 rfl) rfl (Nat.le_refl _) (Nat.le_refl _) hv

set_option maxHeartbeats 2000000 in
theorem c_X8_crookedPair {G : GG} {j nw nx gn : Nat} {g : Nat → Sh} {c : Nat → Nat → Int} {post : Option AV → AM → Prop} {P : GD} {T : PT} {i : Int} (hnw : nw = 21 ∨ nw = 35) (hE : EL c nw P) (hV : GV P) (hT : HT P T) (hR : PR P T c) (p1 : -2147483648 ≤ i ∧ i < 2147483648) (K : ∀ c2 : Nat → Nat → Int, ((∀ a, a ≠ 5 → a ≠ 6 → c2 a = c a) ∧ PR P T c2) → post (some (vi (q_crookedPair P T i))) (S nw nx g, 78 + gn, c2)) : SM G (j + 6) mX8_crookedPair [vr 0, vi i] (S nw nx g, 78 + gn, c) 0 0 post := by
  refine sm_of wX8_crookedPair rfl (Nat.le_of_ble_eq_true rfl) ?_
  have h60 := GV_N hV
  by_cases h0 : ¬ gN P = 0 ∧ 0 ≤ i
  · obtain ⟨i, rfl⟩ : ∃ n : Nat, i = (n : Int) := ⟨i.toNat, by omega⟩
    rw [q_crookedPair, if_pos h0] at K
    refine g_X8_crookedPair_0n hnw hE hV hT hR ?_
    refine ⟨?_, ⟨fun q => ?_, fun q => ⟨?_, ⟨fun q => ⟨?_, fun c_1 h_1 => ⟨?_, ?_, ?_, ?_⟩⟩, fun q => ?_⟩⟩⟩⟩
    all_goals first | omega | assumption | (exfalso; omega) | exact fun v w k hv hw => AT_rng hT h_1.2.2 hv hw k | (have K2 := K c_1 ⟨h_1.1, Or.inr h_1.2⟩; rw [kall_cong (lo := id) (cr_T h_1.2.2) _ _ _ (by omega) (Nat.zero_le _) (fun v => Nat.le_refl v)]; exact K2)
  · rw [q_crookedPair, if_neg h0] at K
    have K0 := K c ⟨fun _ _ _ => rfl, hR⟩
    refine g_X8_crookedPair_0 hnw hE hV hT hR ?_
    refine ⟨?_, ⟨fun q => ?_, fun q => ⟨?_, ⟨fun q => ⟨?_, fun c_1 h_1 => ?_⟩, fun q => ?_⟩⟩⟩⟩
    all_goals first | exact K0 | omega | assumption | (exfalso; omega)

