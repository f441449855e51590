def tN (T : PT) (v w k : Nat) : Nat := if k < 7 then (T v w k).toNat else 0
theorem c_X9_pAtN {G : GG} {j nw nx gn : Nat} {g : Nat → Sh} {c : Nat → Nat → Int} {post : Option AV → AM → Prop} {P : GD} {T : PT} {v w k : Nat} (hM : ML c P) (hV : GV P) (hC : GC P) (hD : PD P T c) (hT : HT P T) (p1 : v < gN P) (p2 : w < gN P) (p3 : k < 2147483648) (K : post (some (vi ((tN T v w k : Nat) : Int))) (S nw nx g, 78 + gn, c)) : SM G (j + 2) mX9_pAt [vr 49, vi ((v : Nat) : Int), vi ((w : Nat) : Int), vi ((k : Nat) : Int)] (S nw nx g, 78 + gn, c) 0 0 post := by
  refine c_X9_pAtD hM hV hC hD p1 p2 p3 ?_
  have e : (if k < 7 then T v w k else 0) = ((tN T v w k : Nat) : Int) := by
    rw [tN]
    by_cases h : k < 7
    · have := hT.2.2 v w k p1 p2 (by omega)
      rw [if_pos h, if_pos h]; omega
    · rw [if_neg h, if_neg h]; rfl
  rw [e]; exact K
def raF (T : PT) (v w : Nat) : Nat → Nat → Nat → Nat
  | 0, _, a => a
  | k + 1, z, a => raF T v w k (z + 1) (a ||| tN T v w z)
theorem raF_0 {T : PT} {v w : Nat} : ∀ k z a, raF T v w k z a = 0 ↔ a = 0 ∧ ∀ i, z ≤ i → i < z + k → tN T v w i = 0 := by
  intro k
  induction k with
  | zero => intro z a; rw [raF]; exact ⟨fun h => ⟨h, fun i h1 h2 => by omega⟩, fun h => h.1⟩
  | succ k ih =>
    intro z a
    rw [raF, ih, Nat.or_eq_zero_iff]
    constructor
    · intro h
      refine ⟨h.1.1, fun i h1 h2 => ?_⟩
      by_cases e : i = z
      · rw [e]; exact h.1.2
      · exact h.2 i (by omega) (by omega)
    · intro h
      exact ⟨⟨h.1, h.2 z (by omega) (by omega)⟩, fun i h1 h2 => h.2 i (by omega) (by omega)⟩
theorem tN_lt {P : GD} {T : PT} (hT : HT P T) {v w k : Nat} (hv : v < gN P) (hw : w < gN P) : tN T v w k < 2 ^ 10 := by
  rw [tN]; split
  · have := hT.2.2 v w k hv hw (by omega)
    omega
  · decide
theorem raF_lt {P : GD} {T : PT} (hT : HT P T) {v w : Nat} (hv : v < gN P) (hw : w < gN P) : ∀ k z a, a < 2 ^ 10 → raF T v w k z a < 2 ^ 10 := by
  intro k
  induction k with
  | zero => intro z a h; exact h
  | succ k ih => intro z a h; exact ih _ _ (Nat.or_lt_two_pow h (tN_lt hT hv hw))
/-- P is 1 -/
def onT (T : PT) (v w : Nat) : Bool := decide (tN T v w 0 = 1) && decide (raF T v w 6 1 0 = 0)

set_option maxHeartbeats 2000000 in
set_option maxRecDepth 20000 in
theorem g_X9_rest_5 {G : GG} {j nw nx gn : Nat} {g : Nat → Sh} {c : Nat → Nat → Int} {post : Option AV → AM → Prop} {v : Nat} {w : Nat} {P : GD} {T : PT} {z : Nat} {a : Nat} (hM : ML c P) (hV : GV P) (hC : GC P) (hD : PD P T c) (hT : HT P T)  (hv : (z < 2147483648) ∧ (((7 ≤ z) → post (some (vi (((a : Nat) : Int)))) (S nw nx g, 78 + gn, c)) ∧ ((¬ (7 ≤ z)) → (v < gN P) ∧ (w < gN P) ∧ (z < 2147483648) ∧ (SW G (j + 2) mX9_rest 5 [some (vr (49)), some (vi (((v : Nat) : Int))), some (vi (((w : Nat) : Int))), some (vi (((a ||| (tN T v w z) : Nat) : Int))), some (vi (((z + 1 : Nat) : Int)))] [] (S nw nx g, 78 + gn, c) B0 post)))) :
    SW G (j + 2) mX9_rest 5 [some (vr (49)), some (vi (((v : Nat) : Int))), some (vi (((w : Nat) : Int))), some (vi (((a : Nat) : Int))), some (vi (((z : Nat) : Int)))] [] (S nw nx g, 78 + gn, c) B0 post := by
  refine sw_iload (dX9_rest.at 4 rfl) rfl ?_
  refine sw_bipush (dX9_rest.at 5 rfl) (by decide) ?_
  refine sw_icmpN_ge z 7 (tgt := 29) (dX9_rest.at 6 rfl) (by decide) hv.1 (by decide) (fun q => ?_) (fun q => ?_)
  · replace hv := hv.2.1 q
    refine sw_iload_n (dX9_rest.at 17 rfl) rfl rfl ?_
    exact sw_iret (dX9_rest.at 18 rfl) rfl (Nat.le_refl _) (Nat.le_refl _) hv
  · replace hv := hv.2.2 q
    refine sw_iload_n (dX9_rest.at 7 rfl) rfl rfl ?_
    refine sw_aload_n (dX9_rest.at 8 rfl) rfl rfl ?_
    refine sw_iload_n (dX9_rest.at 9 rfl) rfl rfl ?_
    refine sw_iload_n (dX9_rest.at 10 rfl) rfl rfl ?_
    refine sw_iload (dX9_rest.at 11 rfl) rfl ?_
    refine sw_callV (B' := B0) (As := [vi (((v : Nat) : Int)), vi (((w : Nat) : Int)), vi (((z : Nat) : Int))]) (mc := 0) (ms := 0) (dX9_rest.at 12 rfl) lk_X9_292 (S_lt 49 (by decide)) (S_49 nw nx g) rfl rfl (Nat.le_of_ble_eq_true rfl) rfl (Nat.le_refl _) (Nat.le_refl _) ?_
    refine c_X9_pAtN (v := v) (w := w) (k := z) (j := j + 0) hM hV hC hD hT hv.1 hv.2.1 hv.2.2.1 ?_
    replace hv := hv.2.2.2
    refine sw_orN a (tN T v w z) (dX9_rest.at 13 rfl) ?_
    refine sw_istore_n (lo' := [some (vr (49)), some (vi (((v : Nat) : Int))), some (vi (((w : Nat) : Int))), some (vi (((a ||| (tN T v w z) : Nat) : Int))), some (vi (((z : Nat) : Int)))]) (dX9_rest.at 14 rfl) rfl (by decide) rfl ?_
    refine sw_iinc (lo' := [some (vr (49)), some (vi (((v : Nat) : Int))), some (vi (((w : Nat) : Int))), some (vi (((a ||| (tN T v w z) : Nat) : Int))), some (vi (((z + 1 : Nat) : Int)))]) (dX9_rest.at 15 rfl) rfl (by decide) rfl ?_
    refine sw_goto (tgt := 5) (dX9_rest.at 16 rfl) (by decide) ?_
    exact hv

set_option maxHeartbeats 4000000 in
theorem lp_X9_rest_5 {G : GG} {j nw nx gn : Nat} {g : Nat → Sh} {c : Nat → Nat → Int} {post : Option AV → AM → Prop} {P : GD} {T : PT} {v : Nat} {w : Nat} (hM : ML c P) (hV : GV P) (hC : GC P) (hD : PD P T c) (hT : HT P T) (hv : v < gN P) (hw : w < gN P) : ∀ (k : Nat) (z : Nat) (a : Nat), z + k = 7 → (post (some (vi (((raF T v w k z a : Nat) : Int)))) (S nw nx g, 78 + gn, c)) → SW G (j + 2) mX9_rest 5 [some (vr (49)), some (vi (((v : Nat) : Int))), some (vi (((w : Nat) : Int))), some (vi (((a : Nat) : Int))), some (vi (((z : Nat) : Int)))] [] (S nw nx g, 78 + gn, c) B0 post := by
  intro k
  induction k with
  | zero =>
    intro z a hrel  K
    simp only [raF] at K
    refine g_X9_rest_5 hM hV hC hD hT  ?_
    refine ⟨?_, ⟨fun q => ?_, fun q => ⟨?_, ?_, ?_, ?_⟩⟩⟩
    all_goals first | omega | exact K | (exfalso; omega) | (simp only [*, if_true, if_false, ite_true, ite_false, Bool.false_eq_true, and_true, true_and, and_false, false_and, and_self, or_true, true_or, or_false, false_or, Bool.and_true, Bool.and_false, Bool.true_and, Bool.false_and, decide_true, decide_false, eq_self, not_true_eq_false, not_false_eq_true, ne_eq, reduceCtorEq] at K; exact K)
  | succ k ih =>
    intro z a hrel  K
    simp only [raF] at K
    refine g_X9_rest_5 hM hV hC hD hT  ?_
    refine ⟨?_, ⟨fun q => ?_, fun q => ⟨?_, ?_, ?_, ?_⟩⟩⟩
    all_goals first | omega | assumption | (exfalso; omega) | (simp only [*, if_true, if_false, ite_true, ite_false, Bool.false_eq_true, and_true, true_and, and_false, false_and, and_self, or_true, true_or, or_false, false_or, Bool.and_true, Bool.and_false, Bool.true_and, Bool.false_and, decide_true, decide_false, eq_self, not_true_eq_false, not_false_eq_true, ne_eq, reduceCtorEq] at K; first | exact K | exact ih _ _ (by omega)  K) | exact ih _ _ (by omega)  K

set_option maxHeartbeats 2000000 in
set_option maxRecDepth 20000 in
theorem g_X9_rest_0 {G : GG} {j nw nx gn : Nat} {g : Nat → Sh} {c : Nat → Nat → Int} {post : Option AV → AM → Prop} {v : Nat} {w : Nat}  (hv : SW G (j + 2) mX9_rest 5 [some (vr (49)), some (vi (((v : Nat) : Int))), some (vi (((w : Nat) : Int))), some (vi (0)), some (vi (1))] [] (S nw nx g, 78 + gn, c) B0 post) :
    SW G (j + 2) mX9_rest 0 [some (vr (49)), some (vi (((v : Nat) : Int))), some (vi (((w : Nat) : Int))), none, none] [] (S nw nx g, 78 + gn, c) B0 post := by
  refine sw_iconst (dX9_rest.at 0 rfl) ?_
  refine sw_istore_n (lo' := [some (vr (49)), some (vi (((v : Nat) : Int))), some (vi (((w : Nat) : Int))), some (vi (0)), none]) (dX9_rest.at 1 rfl) rfl (by decide) rfl ?_
  refine sw_iconst (dX9_rest.at 2 rfl) ?_
  refine sw_istore (lo' := [some (vr (49)), some (vi (((v : Nat) : Int))), some (vi (((w : Nat) : Int))), some (vi (0)), some (vi (1))]) (dX9_rest.at 3 rfl) (by decide) rfl ?_
  exact hv

set_option maxHeartbeats 2000000 in
theorem c_X9_rest {G : GG} {j nw nx gn : Nat} {g : Nat → Sh} {c : Nat → Nat → Int} {post : Option AV → AM → Prop} {P : GD} {T : PT} {v : Nat} {w : Nat} (hM : ML c P) (hV : GV P) (hC : GC P) (hD : PD P T c) (hT : HT P T) (p1 : v < gN P) (p2 : w < gN P) (K : post (some (vi (((raF T v w 6 1 0 : Nat) : Int)))) (S nw nx g, 78 + gn, c)) : SM G (j + 3) mX9_rest [vr (49), vi (((v : Nat) : Int)), vi (((w : Nat) : Int))] (S nw nx g, 78 + gn, c) 0 0 post := by
  refine sm_of wX9_rest rfl (Nat.le_of_ble_eq_true rfl) ?_
  refine g_X9_rest_0  ?_
  exact lp_X9_rest_5 hM hV hC hD hT p1 p2 6 1 0 (by omega) K

set_option maxHeartbeats 2000000 in
set_option maxRecDepth 20000 in
theorem g_X9_isOne_0 {G : GG} {j nw nx gn : Nat} {g : Nat → Sh} {c : Nat → Nat → Int} {post : Option AV → AM → Prop} {v : Nat} {w : Nat} {P : GD} {T : PT} (hM : ML c P) (hV : GV P) (hC : GC P) (hD : PD P T c) (hT : HT P T)  (hv : (v < gN P) ∧ (w < gN P) ∧ (0 < 2147483648) ∧ ((tN T v w 0 < 2147483648) ∧ (((tN T v w 0 ≠ 1) → post (some (vi (0))) (S nw nx g, 78 + gn, c)) ∧ ((tN T v w 0 = 1) → (v < gN P) ∧ (w < gN P) ∧ ((raF T v w 6 1 0 < 2147483648) ∧ (((raF T v w 6 1 0 ≠ 0) → post (some (vi (0))) (S nw nx g, 78 + gn, c)) ∧ ((raF T v w 6 1 0 = 0) → post (some (vi (1))) (S nw nx g, 78 + gn, c)))))))) :
    SW G (j + 3) mX9_isOne 0 [some (vr (49)), some (vi (((v : Nat) : Int))), some (vi (((w : Nat) : Int)))] [] (S nw nx g, 78 + gn, c) B0 post := by
  refine sw_aload_n (dX9_isOne.at 0 rfl) rfl rfl ?_
  refine sw_iload_n (dX9_isOne.at 1 rfl) rfl rfl ?_
  refine sw_iload_n (dX9_isOne.at 2 rfl) rfl rfl ?_
  refine sw_iconst (dX9_isOne.at 3 rfl) ?_
  refine sw_callV (B' := B0) (As := [vi (((v : Nat) : Int)), vi (((w : Nat) : Int)), vi (0)]) (mc := 0) (ms := 0) (dX9_isOne.at 4 rfl) lk_X9_292 (S_lt 49 (by decide)) (S_49 nw nx g) rfl rfl (Nat.le_of_ble_eq_true rfl) rfl (Nat.le_refl _) (Nat.le_refl _) ?_
  refine c_X9_pAtN (v := v) (w := w) (k := 0) (j := j + 1) hM hV hC hD hT hv.1 hv.2.1 hv.2.2.1 ?_
  replace hv := hv.2.2.2
  refine sw_iconst (dX9_isOne.at 5 rfl) ?_
  refine sw_icmpN_ne (tN T v w 0) 1 (tgt := 24) (dX9_isOne.at 6 rfl) (by decide) hv.1 (by decide) (fun q => ?_) (fun q => ?_)
  · replace hv := hv.2.1 q
    refine sw_iconst (dX9_isOne.at 14 rfl) ?_
    exact sw_zret (dX9_isOne.at 15 rfl) rfl (by decide) (Nat.le_refl _) (Nat.le_refl _) hv
  · replace hv := hv.2.2 q
    refine sw_aload_n (dX9_isOne.at 7 rfl) rfl rfl ?_
    refine sw_iload_n (dX9_isOne.at 8 rfl) rfl rfl ?_
    refine sw_iload_n (dX9_isOne.at 9 rfl) rfl rfl ?_
    refine sw_callV (B' := B0) (As := [vi (((v : Nat) : Int)), vi (((w : Nat) : Int))]) (mc := 0) (ms := 0) (dX9_isOne.at 10 rfl) lk_X9_327 (S_lt 49 (by decide)) (S_49 nw nx g) rfl rfl (Nat.le_of_ble_eq_true rfl) rfl (Nat.le_refl _) (Nat.le_refl _) ?_
    refine c_X9_rest (v := v) (w := w) (j := j + 0) hM hV hC hD hT hv.1 hv.2.1 ?_
    replace hv := hv.2.2
    refine sw_ifN_ne (raF T v w 6 1 0) (tgt := 24) (dX9_isOne.at 11 rfl) (by decide) hv.1 (fun q => ?_) (fun q => ?_)
    · replace hv := hv.2.1 q
      refine sw_iconst (dX9_isOne.at 14 rfl) ?_
      exact sw_zret (dX9_isOne.at 15 rfl) rfl (by decide) (Nat.le_refl _) (Nat.le_refl _) hv
    · replace hv := hv.2.2 q
      refine sw_iconst (dX9_isOne.at 12 rfl) ?_
      refine sw_goto (tgt := 25) (dX9_isOne.at 13 rfl) (by decide) ?_
      exact sw_zret (dX9_isOne.at 15 rfl) rfl (by decide) (Nat.le_refl _) (Nat.le_refl _) hv

set_option maxHeartbeats 2000000 in
theorem c_X9_isOne {G : GG} {j nw nx gn : Nat} {g : Nat → Sh} {c : Nat → Nat → Int} {post : Option AV → AM → Prop} {P : GD} {T : PT} {v : Nat} {w : Nat} (hM : ML c P) (hV : GV P) (hC : GC P) (hD : PD P T c) (hT : HT P T) (p1 : v < gN P) (p2 : w < gN P) (K : post (some (vi (bz (onT T v w)))) (S nw nx g, 78 + gn, c)) : SM G (j + 4) mX9_isOne [vr (49), vi (((v : Nat) : Int)), vi (((w : Nat) : Int))] (S nw nx g, 78 + gn, c) 0 0 post := by
  refine sm_of wX9_isOne rfl (Nat.le_of_ble_eq_true rfl) ?_
  refine g_X9_isOne_0 hM hV hC hD hT ?_
  have t0 := tN_lt hT (k := 0) p1 p2
  have t1 := raF_lt hT p1 p2 6 1 0 (by decide)
  have K1 : ∀ z : Int, z = bz (onT T v w) → post (some (vi z)) (S nw nx g, 78 + gn, c) := fun z h => h ▸ K
  refine ⟨?_, ?_, ?_, ⟨?_, ⟨fun q => ?_, fun q => ⟨?_, ?_, ⟨?_, ⟨fun q => ?_, fun q => ?_⟩⟩⟩⟩⟩⟩
  all_goals first | omega | assumption | (refine K1 _ ?_; simp [onT, bz, *]; done)

/-- of what is below, number 0 is 1 -/
def hP0 (P : GD) (T : PT) : Prop := ∀ v w, v < gN P → w < gN P → (gD P w).testBit v = true → T v w 0 = 1
theorem hpF_pos {f : Nat → Int} {p : Nat} : ∀ n, 0 < hpF f p n ↔ ∃ k, 1 ≤ k ∧ k < n ∧ f (p + k) ≠ 0 := by
  intro n
  induction n with
  | zero => rw [hpF]; exact ⟨fun h => by omega, fun h => by obtain ⟨k, a, b, _⟩ := h; omega⟩
  | succ n ih =>
    rw [hpF]
    by_cases h : f (p + n) ≠ 0
    · rw [if_pos h]
      constructor
      · intro q; exact ⟨n, by omega, by omega, h⟩
      · intro q
        obtain ⟨k, a, b, _⟩ := q
        omega
    · rw [if_neg h, ih]
      constructor
      · intro q; obtain ⟨k, a, b, d⟩ := q; exact ⟨k, a, by omega, d⟩
      · intro q
        obtain ⟨k, a, b, d⟩ := q
        refine ⟨k, a, ?_, d⟩
        by_cases e : k = n
        · rw [e] at d; exact absurd d h
        · omega
theorem cr_on {P : GD} {T : PT} (hV : GV P) (hG : GP P T) (hT : HT P T) (h0 : hP0 P T) {v w : Nat} (hv : v < gN P) (hw : w < gN P) : ((gD P w).testBit v && !onT T v w) = crT T v w := by
  have e7 := T_7 hV hG hv hw
  have key : onT T v w = true ↔ T v w 0 = 1 ∧ ∀ k, 1 ≤ k → k < 7 → T v w k = 0 := by
    rw [onT, Bool.and_eq_true, decide_eq_true_eq, decide_eq_true_eq, raF_0]
    have b0 := hT.2.2 v w 0 hv hw (by omega)
    constructor
    · intro h
      refine ⟨?_, fun k h1 h2 => ?_⟩
      · have := h.1; rw [tN, if_pos (by omega)] at this; omega
      · have := h.2.2 k h1 (by omega); rw [tN, if_pos h2] at this
        have := hT.2.2 v w k hv hw (by omega); omega
    · intro h
      refine ⟨?_, rfl, fun i h1 h2 => ?_⟩
      · rw [tN, if_pos (by omega), h.1]; rfl
      · rw [tN, if_pos (by omega), h.2 i h1 (by omega)]; rfl
  have key2 : crT T v w = true ↔ ∃ k, 1 ≤ k ∧ k < 7 ∧ T v w k ≠ 0 := by
    rw [crT, decide_eq_true_eq, hp_87 hV hG hv hw, hpF_pos]
    simp only [Nat.zero_add]
  cases hb : (gD P w).testBit v with
  | false =>
    rw [Bool.false_and]
    cases hc : crT T v w with
    | false => rfl
    | true =>
      obtain ⟨k, a, b, d⟩ := key2.mp hc
      have p9 := hG.2.2 v w hv hw
      by_cases e : v = w
      · exact absurd (by rw [p9.1 k (by omega) e, if_neg (by omega)]) d
      · exact absurd (p9.2.1 k (by omega) e hb) d
  | true =>
    rw [Bool.true_and]
    cases hc : crT T v w with
    | true =>
      obtain ⟨k, a, b, d⟩ := key2.mp hc
      cases ho : onT T v w with
      | false => rfl
      | true => exact absurd ((key.mp ho).2 k a b) d
    | false =>
      have : onT T v w = true := key.mpr ⟨h0 v w hv hw hb, fun k a b => by
        apply Classical.byContradiction
        intro d
        rw [key2.mpr ⟨k, a, b, d⟩] at hc
        exact absurd hc (by decide)⟩
      rw [this]; rfl
set_option maxHeartbeats 2000000 in
set_option maxRecDepth 20000 in
theorem g_X9_smooth_14 {G : GG} {j nw nx gn : Nat} {g : Nat → Sh} {c : Nat → Nat → Int} {post : Option AV → AM → Prop} {x : Nat} {P : GD} {T : PT} {z : Nat} (hM : ML c P) (hV : GV P) (hC : GC P) (hD : PD P T c) (hT : HT P T)  (hv : (z < 2147483648) ∧ (gN P < 2147483648) ∧ (((gN P ≤ z) → post (some (vi (1))) (S nw nx g, 78 + gn, c)) ∧ ((¬ (gN P ≤ z)) → (z < gN P) ∧ (x < gN P) ∧ (((((gD P x).testBit z) = false) → SW G (j + 5) mX9_smooth 14 [some (vr (49)), some (vi (((x : Nat) : Int))), some (vi (((z + 1 : Nat) : Int)))] [] (S nw nx g, 78 + gn, c) B0 post) ∧ ((((gD P x).testBit z) = true) → (z < gN P) ∧ (x < gN P) ∧ ((((onT T z x) = true) → SW G (j + 5) mX9_smooth 14 [some (vr (49)), some (vi (((x : Nat) : Int))), some (vi (((z + 1 : Nat) : Int)))] [] (S nw nx g, 78 + gn, c) B0 post) ∧ (((onT T z x) = false) → post (some (vi (0))) (S nw nx g, 78 + gn, c)))))))) :
    SW G (j + 5) mX9_smooth 14 [some (vr (49)), some (vi (((x : Nat) : Int))), some (vi (((z : Nat) : Int)))] [] (S nw nx g, 78 + gn, c) B0 post := by
  refine sw_iload_n (dX9_smooth.at 9 rfl) rfl rfl ?_
  refine sw_aload_n (dX9_smooth.at 10 rfl) rfl rfl ?_
  refine sw_getIE (w := ((gN P : Nat) : Int)) (dX9_smooth.at 11 rfl) fp_X9_196 (S_lt 49 (by decide)) (S_49 nw nx g) rfl hM.1.2.1 ?_
  refine sw_icmpN_ge z (gN P) (tgt := 48) (dX9_smooth.at 12 rfl) (by decide) hv.1 hv.2.1 (fun q => ?_) (fun q => ?_)
  · replace hv := hv.2.2.1 q
    refine sw_iconst (dX9_smooth.at 27 rfl) ?_
    exact sw_iret (dX9_smooth.at 28 rfl) rfl (Nat.le_refl _) (Nat.le_refl _) hv
  · replace hv := hv.2.2.2 q
    refine sw_aload_n (dX9_smooth.at 13 rfl) rfl rfl ?_
    refine sw_iload_n (dX9_smooth.at 14 rfl) rfl rfl ?_
    refine sw_iload_n (dX9_smooth.at 15 rfl) rfl rfl ?_
    refine sw_callV (B' := B0) (As := [vi (((z : Nat) : Int)), vi (((x : Nat) : Int))]) (mc := 0) (ms := 0) (dX9_smooth.at 16 rfl) lk_X9_311 (S_lt 49 (by decide)) (S_49 nw nx g) rfl rfl (Nat.le_of_ble_eq_true rfl) rfl (Nat.le_refl _) (Nat.le_refl _) ?_
    refine c_X9_areBelow (v := z) (w := x) (j := j + 4) hM hV hC hD hv.1 hv.2.1 ?_
    replace hv := hv.2.2
    refine sw_if_eq (tgt := 42) (dX9_smooth.at 17 rfl) (by decide) (bz_rng _) (fun q => ?_) (fun q => ?_)
    · replace hv := hv.1 (bz_0 q)
      refine sw_iinc (lo' := [some (vr (49)), some (vi (((x : Nat) : Int))), some (vi (((z + 1 : Nat) : Int)))]) (dX9_smooth.at 25 rfl) rfl (by decide) rfl ?_
      refine sw_goto (tgt := 14) (dX9_smooth.at 26 rfl) (by decide) ?_
      exact hv
    · replace hv := hv.2 (bz_n0 q)
      refine sw_aload_n (dX9_smooth.at 18 rfl) rfl rfl ?_
      refine sw_iload_n (dX9_smooth.at 19 rfl) rfl rfl ?_
      refine sw_iload_n (dX9_smooth.at 20 rfl) rfl rfl ?_
      refine sw_callV (B' := B0) (As := [vi (((z : Nat) : Int)), vi (((x : Nat) : Int))]) (mc := 0) (ms := 0) (dX9_smooth.at 21 rfl) lk_X9_330 (S_lt 49 (by decide)) (S_49 nw nx g) rfl rfl (Nat.le_of_ble_eq_true rfl) rfl (Nat.le_refl _) (Nat.le_refl _) ?_
      refine c_X9_isOne (v := z) (w := x) (j := j + 1) hM hV hC hD hT hv.1 hv.2.1 ?_
      replace hv := hv.2.2
      refine sw_if_ne (tgt := 42) (dX9_smooth.at 22 rfl) (by decide) (bz_rng _) (fun q => ?_) (fun q => ?_)
      · replace hv := hv.1 (bz_1 q)
        refine sw_iinc (lo' := [some (vr (49)), some (vi (((x : Nat) : Int))), some (vi (((z + 1 : Nat) : Int)))]) (dX9_smooth.at 25 rfl) rfl (by decide) rfl ?_
        refine sw_goto (tgt := 14) (dX9_smooth.at 26 rfl) (by decide) ?_
        exact hv
      · replace hv := hv.2 (bz_n1 q)
        refine sw_iconst (dX9_smooth.at 23 rfl) ?_
        exact sw_iret (dX9_smooth.at 24 rfl) rfl (Nat.le_refl _) (Nat.le_refl _) hv

set_option maxHeartbeats 4000000 in
theorem lp_X9_smooth_14 {G : GG} {j nw nx gn : Nat} {g : Nat → Sh} {c : Nat → Nat → Int} {post : Option AV → AM → Prop} {P : GD} {T : PT} {x : Nat} (hM : ML c P) (hV : GV P) (hC : GC P) (hD : PD P T c) (hT : HT P T) (hG : GP P T) (h0 : hP0 P T) (hx : x < gN P) : ∀ (k : Nat) (z : Nat), z + k = gN P → (post (some (vi (smF T x k z))) (S nw nx g, 78 + gn, c)) → SW G (j + 5) mX9_smooth 14 [some (vr (49)), some (vi (((x : Nat) : Int))), some (vi (((z : Nat) : Int)))] [] (S nw nx g, 78 + gn, c) B0 post := by
  intro k
  induction k with
  | zero =>
    intro z hrel  K
    have h60 := GV_N hV
    rw [smF] at K
    refine g_X9_smooth_14 hM hV hC hD hT ?_
    refine ⟨?_, ?_, ⟨fun q => ?_, fun q => ⟨?_, ?_, ⟨fun q => ?_, fun q => ⟨?_, ?_, ⟨fun q => ?_, fun q => ?_⟩⟩⟩⟩⟩⟩
    all_goals first | omega | exact K | (exfalso; omega)
  | succ k ih =>
    intro z hrel  K
    have h60 := GV_N hV
    rw [smF] at K
    have c9 := cr_on hV hG hT h0 (show z < gN P by omega) hx
    rw [crT] at c9
    refine g_X9_smooth_14 hM hV hC hD hT ?_
    by_cases hh : 0 < hpT T z x
    · rw [if_pos hh] at K
      rw [decide_eq_true hh, Bool.and_eq_true] at c9
      have c8 : onT T z x = false := by simpa using c9.2
      refine ⟨?_, ?_, ⟨fun q => ?_, fun q => ⟨?_, ?_, ⟨fun q => ?_, fun q => ⟨?_, ?_, ⟨fun q => ?_, fun q => ?_⟩⟩⟩⟩⟩⟩
      all_goals first | omega | assumption | (exfalso; omega) | exact K | (exfalso; rw [c9.1] at q; exact absurd q (by decide)) | (exfalso; rw [c8] at q; exact absurd q (by decide))
    · rw [if_neg hh] at K
      rw [decide_eq_false hh] at c9
      refine ⟨?_, ?_, ⟨fun q => ?_, fun q => ⟨?_, ?_, ⟨fun q => ?_, fun q => ⟨?_, ?_, ⟨fun q => ?_, fun q => ?_⟩⟩⟩⟩⟩⟩
      all_goals first | omega | assumption | (exfalso; omega) | exact ih _ (by omega) K | (exfalso; rw [‹(gD P x).testBit z = true›, ‹onT T z x = false›] at c9; exact absurd c9 (by decide))

set_option maxHeartbeats 2000000 in
set_option maxRecDepth 20000 in
theorem g_X9_smooth_0n {G : GG} {j nw nx gn : Nat} {g : Nat → Sh} {c : Nat → Nat → Int} {post : Option AV → AM → Prop} {x : Nat} {P : GD} {T : PT} (hM : ML c P) (hV : GV P) (hC : GC P) (hG : GP P T) (hR : RR P T c) (hT : HT P T) (h0 : hP0 P T)  (hv : (x < gN P) ∧ (x < gN P) ∧ (∀ c_1 : Nat → Nat → Int, (SD c c_1 ∧ RD P T c_1) → SW G (j + 5) mX9_smooth 14 [some (vr (49)), some (vi (((x : Nat) : Int))), some (vi (0))] [] (S nw nx g, 78 + gn, c_1) B0 post)) :
    SW G (j + 5) mX9_smooth 0 [some (vr (49)), some (vi (((x : Nat) : Int))), none] [] (S nw nx g, 78 + gn, c) B0 post := by
  refine sw_aload_n (dX9_smooth.at 0 rfl) rfl rfl ?_
  refine sw_iload_n (dX9_smooth.at 1 rfl) rfl rfl ?_
  refine sw_iload_n (dX9_smooth.at 2 rfl) rfl rfl ?_
  refine sw_callV (B' := B0) (As := [vi (((x : Nat) : Int)), vi (((x : Nat) : Int))]) (mc := 0) (ms := 0) (dX9_smooth.at 3 rfl) lk_X9_308 (S_lt 49 (by decide)) (S_49 nw nx g) rfl rfl (Nat.le_of_ble_eq_true rfl) rfl (Nat.le_refl _) (Nat.le_refl _) ?_
  refine c_X9_arePairY (x := x) (y := x) (j := j + 0) hM hV hC hG hR hv.1 hv.2.1 (fun c_1 h_1 => ?_)
  replace hv := hv.2.2 c_1 h_1
  refine sw_if_ne (tgt := 12) (dX9_smooth.at 4 rfl) (by decide) (by decide) (fun q => ?_) (fun q => ?_)
  · clear q
    refine sw_iconst (dX9_smooth.at 7 rfl) ?_
    refine sw_istore_n (lo' := [some (vr (49)), some (vi (((x : Nat) : Int))), some (vi (0))]) (dX9_smooth.at 8 rfl) rfl (by decide) rfl ?_
    exact hv
  · exact absurd q (by decide)

set_option maxHeartbeats 2000000 in
set_option maxRecDepth 20000 in
theorem g_X9_smooth_0 {G : GG} {j nw nx gn : Nat} {g : Nat → Sh} {c : Nat → Nat → Int} {post : Option AV → AM → Prop} {x : Int} {P : GD} {T : PT} (hM : ML c P) (hV : GV P) (hC : GC P) (hG : GP P T) (hR : RR P T c) (hT : HT P T) (h0 : hP0 P T)  (hv : (-2147483648 ≤ x ∧ x < 2147483648) ∧ (-2147483648 ≤ x ∧ x < 2147483648) ∧ (∀ c_1 : Nat → Nat → Int, (SD c c_1 ∧ RR P T c_1) → (((decide ((0 ≤ x ∧ x < (gN P : Int)) ∧ 0 ≤ x ∧ x < (gN P : Int))) = true) → SW G (j + 5) mX9_smooth 14 [some (vr (49)), some (vi (x)), some (vi (0))] [] (S nw nx g, 78 + gn, c_1) B0 post) ∧ (((decide ((0 ≤ x ∧ x < (gN P : Int)) ∧ 0 ≤ x ∧ x < (gN P : Int))) = false) → post (some (vi ((-2)))) (S nw nx g, 78 + gn, c_1)))) :
    SW G (j + 5) mX9_smooth 0 [some (vr (49)), some (vi (x)), none] [] (S nw nx g, 78 + gn, c) B0 post := by
  refine sw_aload_n (dX9_smooth.at 0 rfl) rfl rfl ?_
  refine sw_iload_n (dX9_smooth.at 1 rfl) rfl rfl ?_
  refine sw_iload_n (dX9_smooth.at 2 rfl) rfl rfl ?_
  refine sw_callV (B' := B0) (As := [vi (x), vi (x)]) (mc := 0) (ms := 0) (dX9_smooth.at 3 rfl) lk_X9_308 (S_lt 49 (by decide)) (S_49 nw nx g) rfl rfl (Nat.le_of_ble_eq_true rfl) rfl (Nat.le_refl _) (Nat.le_refl _) ?_
  refine c_X9_arePairG (x := x) (y := x) (j := j + 0) hM hV hC hG hR hv.1 hv.2.1 (fun c_1 h_1 => ?_)
  replace hv := hv.2.2 c_1 h_1
  refine sw_if_ne (tgt := 12) (dX9_smooth.at 4 rfl) (by decide) (bz_rng _) (fun q => ?_) (fun q => ?_)
  · replace hv := hv.1 (bz_1 q)
    refine sw_iconst (dX9_smooth.at 7 rfl) ?_
    refine sw_istore_n (lo' := [some (vr (49)), some (vi (x)), some (vi (0))]) (dX9_smooth.at 8 rfl) rfl (by decide) rfl ?_
    exact hv
  · replace hv := hv.2 (bz_n1 q)
    refine sw_bipush (dX9_smooth.at 5 rfl) (by decide) ?_
    exact sw_iret (dX9_smooth.at 6 rfl) rfl (Nat.le_refl _) (Nat.le_refl _) hv

set_option maxHeartbeats 4000000 in
theorem c_X9_smooth {G : GG} {j nw nx gn : Nat} {g : Nat → Sh} {c : Nat → Nat → Int} {post : Option AV → AM → Prop} {P : GD} {T : PT} {x : Int} (hM : ML c P) (hV : GV P) (hC : GC P) (hG : GP P T) (hR : RR P T c) (hT : HT P T) (h0 : hP0 P T) (p1 : -2147483648 ≤ x ∧ x < 2147483648) (K : ∀ c2 : Nat → Nat → Int, (SD c c2 ∧ RR P T c2) → post (some (vi (q_smooth P T x))) (S nw nx g, 78 + gn, c2)) : SM G (j + 6) mX9_smooth [vr (49), vi (x)] (S nw nx g, 78 + gn, c) 0 0 post := by
  refine sm_of wX9_smooth rfl (Nat.le_of_ble_eq_true rfl) ?_
  have hN60 := GV_N hV
  have hR5 := GV_R hV
  by_cases hv : 0 ≤ x ∧ x < (gN P : Int)
  · obtain ⟨x, rfl⟩ : ∃ n : Nat, x = (n : Int) := ⟨x.toNat, by omega⟩
    have e : q_smooth P T ((x : Nat) : Int) = smF T x (gN P) 0 := by
      rw [q_smooth, if_pos hv]
      simp only [Int.toNat_natCast]
    rw [e] at K
    have K1 : ∀ (z : Int) (c2 : Nat → Nat → Int), ((SD c c2 ∧ RR P T c2)) → z = (smF T x (gN P) 0) → post (some (vi z)) (S nw nx g, 78 + gn, c2) := fun z c2 h e9 => e9 ▸ K c2 h
    refine g_X9_smooth_0n hM hV hC hG hR hT h0 ?_
    refine ⟨?_, ?_, fun c_1 h_1 => ?_⟩
    all_goals first | omega | assumption | (exfalso; simp only [decide_eq_true_eq, decide_eq_false_iff_not] at *; omega) | exact lp_X9_smooth_14 (ML_SD hM h_1.1) hV hC h_1.2.2 hT hG h0 (by omega) (gN P) 0 (by omega) (K c_1 ⟨h_1.1, Or.inr h_1.2⟩) | exact K _ (by first | exact ⟨SD_rf, hR⟩ | exact ⟨h_1.1, Or.inr h_1.2⟩ | assumption | exact ⟨SD_tr h_1.1 (SD_SC h_2), Or.inr (RD_SC h_1.2 h_2)⟩ | exact ⟨SD_tr h_1.1 (SD_SC (SC_tr h_2 h_3)), Or.inr (RD_SC h_1.2 (SC_tr h_2 h_3))⟩) | (refine K1 _ _ (by first | exact ⟨SD_rf, hR⟩ | exact ⟨h_1.1, Or.inr h_1.2⟩ | assumption | exact ⟨SD_tr h_1.1 (SD_SC h_2), Or.inr (RD_SC h_1.2 h_2)⟩ | exact ⟨SD_tr h_1.1 (SD_SC (SC_tr h_2 h_3)), Or.inr (RD_SC h_1.2 (SC_tr h_2 h_3))⟩) ?_; first | rfl | (simp [bz, *]; done) | (split <;> first | rfl | omega))
  · have e : q_smooth P T x = (-2) := by rw [q_smooth, if_neg hv]
    rw [e] at K
    have K1 : ∀ (z : Int) (c2 : Nat → Nat → Int), ((SD c c2 ∧ RR P T c2)) → z = ((-2)) → post (some (vi z)) (S nw nx g, 78 + gn, c2) := fun z c2 h e9 => e9 ▸ K c2 h
    refine g_X9_smooth_0 hM hV hC hG hR hT h0 ?_
    refine ⟨?_, ?_, fun c_1 h_1 => ⟨fun q => ?_, fun q => ?_⟩⟩
    all_goals first | omega | assumption | (exfalso; simp only [decide_eq_true_eq, decide_eq_false_iff_not] at *; omega) | exact K _ (by first | exact ⟨SD_rf, hR⟩ | exact ⟨h_1.1, Or.inr h_1.2⟩ | assumption | exact ⟨SD_tr h_1.1 (SD_SC h_2), Or.inr (RD_SC h_1.2 h_2)⟩ | exact ⟨SD_tr h_1.1 (SD_SC (SC_tr h_2 h_3)), Or.inr (RD_SC h_1.2 (SC_tr h_2 h_3))⟩) | (refine K1 _ _ (by first | exact ⟨SD_rf, hR⟩ | exact ⟨h_1.1, Or.inr h_1.2⟩ | assumption | exact ⟨SD_tr h_1.1 (SD_SC h_2), Or.inr (RD_SC h_1.2 h_2)⟩ | exact ⟨SD_tr h_1.1 (SD_SC (SC_tr h_2 h_3)), Or.inr (RD_SC h_1.2 (SC_tr h_2 h_3))⟩) ?_; first | rfl | (simp [bz, *]; done) | (split <;> first | rfl | omega))

def prR (P : GD) (T : PT) (v w : Nat) : Bool := (gD P w).testBit v && !onT T v w
theorem krow_skip {p : Nat → Bool} {v : Nat} {i : Int} {cont : Nat → Int} : ∀ d k w u, (∀ z, w ≤ z → z < w + d → p z = false) → krow p v i cont (d + k) w u = krow p v i cont k (w + d) u := by
  intro d
  induction d with
  | zero => intro k w u _; rw [Nat.zero_add, Nat.add_zero]
  | succ d ih =>
    intro k w u h
    rw [show d + 1 + k = d + k + 1 by omega, krow, if_neg (by rw [h w (by omega) (by omega)]; decide), ih k (w + 1) u (fun z h1 h2 => h z (by omega) (by omega)), show w + 1 + d = w + (d + 1) by omega]
theorem kall_0 {pr : Nat → Nat → Bool} {n : Nat} {i : Int} {e : Nat → Int} (h : ∀ v w, w < v → pr v w = false) : ∀ k v u, v + k ≤ n → kall pr (fun _ => 0) n i e k v u = kall pr id n i e k v u := by
  intro k
  induction k with
  | zero => intro v u _; rfl
  | succ k ih =>
    intro v u hv
    rw [kall, kall]
    have h1 := krow_skip (p := pr v) (v := v) (i := i) (cont := fun u2 => kall pr (fun _ => 0) n i e k (v + 1) u2) v (n - v) 0 u (fun z _ hz => h v z (by omega))
    rw [show n - (fun _ => 0) v = v + (n - v) by show n - 0 = _; omega]
    show krow _ _ _ _ (v + (n - v)) 0 u = krow _ _ _ _ (n - v) v u
    rw [h1, Nat.zero_add]
    exact krow_cong (fun u2 => ih (v + 1) u2 (by omega)) _ _ _ (fun z _ => rfl)
set_option maxHeartbeats 2000000 in
set_option maxRecDepth 20000 in
theorem g_X9_crookedOf_19 {G : GG} {j nw nx gn : Nat} {g : Nat → Sh} {c : Nat → Nat → Int} {post : Option AV → AM → Prop} {i : Int} {P : GD} {T : PT} {v : Nat} {w : Nat} {u : Nat} (hM : ML c P) (hV : GV P) (hC : GC P) (hD : PD P T c) (hT : HT P T)  (hv : (w < 2147483648) ∧ (gN P < 2147483648) ∧ (((gN P ≤ w) → SW G (j + 4) mX9_crookedOf 8 [some (vr (49)), some (vi (i)), some (vi (((u : Nat) : Int))), some (vi (((v + 1 : Nat) : Int))), none] [] (S nw nx g, 78 + gn, c) B0 post) ∧ ((¬ (gN P ≤ w)) → (v < gN P) ∧ (w < gN P) ∧ (((((gD P w).testBit v) = false) → SW G (j + 4) mX9_crookedOf 19 [some (vr (49)), some (vi (i)), some (vi (((u : Nat) : Int))), some (vi (((v : Nat) : Int))), some (vi (((w + 1 : Nat) : Int)))] [] (S nw nx g, 78 + gn, c) B0 post) ∧ ((((gD P w).testBit v) = true) → (v < gN P) ∧ (w < gN P) ∧ ((((onT T v w) = false) → (u < 2147483648) ∧ (-2147483648 ≤ i ∧ i < 2147483648) ∧ (((((u : Nat) : Int) ≠ i) → SW G (j + 4) mX9_crookedOf 19 [some (vr (49)), some (vi (i)), some (vi (((u + 1 : Nat) : Int))), some (vi (((v : Nat) : Int))), some (vi (((w + 1 : Nat) : Int)))] [] (S nw nx g, 78 + gn, c) B0 post) ∧ ((((u : Nat) : Int) = i) → post (some (vi ((((100 * v) + w : Nat) : Int)))) (S nw nx g, 78 + gn, c)))) ∧ (((onT T v w) = true) → SW G (j + 4) mX9_crookedOf 19 [some (vr (49)), some (vi (i)), some (vi (((u : Nat) : Int))), some (vi (((v : Nat) : Int))), some (vi (((w + 1 : Nat) : Int)))] [] (S nw nx g, 78 + gn, c) B0 post))))))) :
    SW G (j + 4) mX9_crookedOf 19 [some (vr (49)), some (vi (i)), some (vi (((u : Nat) : Int))), some (vi (((v : Nat) : Int))), some (vi (((w : Nat) : Int)))] [] (S nw nx g, 78 + gn, c) B0 post := by
  refine sw_iload (dX9_crookedOf.at 12 rfl) rfl ?_
  refine sw_aload_n (dX9_crookedOf.at 13 rfl) rfl rfl ?_
  refine sw_getIE (w := ((gN P : Nat) : Int)) (dX9_crookedOf.at 14 rfl) fp_X9_196 (S_lt 49 (by decide)) (S_49 nw nx g) rfl hM.1.2.1 ?_
  refine sw_icmpN_ge w (gN P) (tgt := 73) (dX9_crookedOf.at 15 rfl) (by decide) hv.1 hv.2.1 (fun q => ?_) (fun q => ?_)
  · replace hv := hv.2.2.1 q
    refine sw_iinc (lo' := [some (vr (49)), some (vi (i)), some (vi (((u : Nat) : Int))), some (vi (((v + 1 : Nat) : Int))), some (vi (((w : Nat) : Int)))]) (dX9_crookedOf.at 39 rfl) rfl (by decide) rfl ?_
    refine sw_goto (tgt := 8) (dX9_crookedOf.at 40 rfl) (by decide) ?_
    exact sw_mask (bs := [true, true, true, true, false]) hv
  · replace hv := hv.2.2.2 q
    refine sw_aload_n (dX9_crookedOf.at 16 rfl) rfl rfl ?_
    refine sw_iload_n (dX9_crookedOf.at 17 rfl) rfl rfl ?_
    refine sw_iload (dX9_crookedOf.at 18 rfl) rfl ?_
    refine sw_callV (B' := B0) (As := [vi (((v : Nat) : Int)), vi (((w : Nat) : Int))]) (mc := 0) (ms := 0) (dX9_crookedOf.at 19 rfl) lk_X9_311 (S_lt 49 (by decide)) (S_49 nw nx g) rfl rfl (Nat.le_of_ble_eq_true rfl) rfl (Nat.le_refl _) (Nat.le_refl _) ?_
    refine c_X9_areBelow (v := v) (w := w) (j := j + 3) hM hV hC hD hv.1 hv.2.1 ?_
    replace hv := hv.2.2
    refine sw_if_eq (tgt := 67) (dX9_crookedOf.at 20 rfl) (by decide) (bz_rng _) (fun q => ?_) (fun q => ?_)
    · replace hv := hv.1 (bz_0 q)
      refine sw_iinc (lo' := [some (vr (49)), some (vi (i)), some (vi (((u : Nat) : Int))), some (vi (((v : Nat) : Int))), some (vi (((w + 1 : Nat) : Int)))]) (dX9_crookedOf.at 37 rfl) rfl (by decide) rfl ?_
      refine sw_goto (tgt := 19) (dX9_crookedOf.at 38 rfl) (by decide) ?_
      exact hv
    · replace hv := hv.2 (bz_n0 q)
      refine sw_aload_n (dX9_crookedOf.at 21 rfl) rfl rfl ?_
      refine sw_iload_n (dX9_crookedOf.at 22 rfl) rfl rfl ?_
      refine sw_iload (dX9_crookedOf.at 23 rfl) rfl ?_
      refine sw_callV (B' := B0) (As := [vi (((v : Nat) : Int)), vi (((w : Nat) : Int))]) (mc := 0) (ms := 0) (dX9_crookedOf.at 24 rfl) lk_X9_330 (S_lt 49 (by decide)) (S_49 nw nx g) rfl rfl (Nat.le_of_ble_eq_true rfl) rfl (Nat.le_refl _) (Nat.le_refl _) ?_
      refine c_X9_isOne (v := v) (w := w) (j := j + 0) hM hV hC hD hT hv.1 hv.2.1 ?_
      replace hv := hv.2.2
      refine sw_if_eq (tgt := 51) (dX9_crookedOf.at 25 rfl) (by decide) (bz_rng _) (fun q => ?_) (fun q => ?_)
      · replace hv := hv.1 (bz_0 q)
        refine sw_iload_n (dX9_crookedOf.at 27 rfl) rfl rfl ?_
        refine sw_iload_n (dX9_crookedOf.at 28 rfl) rfl rfl ?_
        refine sw_icmp_ne (tgt := 64) (dX9_crookedOf.at 29 rfl) (by decide) (nrng hv.1) hv.2.1 (fun q => ?_) (fun q => ?_)
        · replace hv := hv.2.2.1 q
          refine sw_iinc (lo' := [some (vr (49)), some (vi (i)), some (vi (((u + 1 : Nat) : Int))), some (vi (((v : Nat) : Int))), some (vi (((w : Nat) : Int)))]) (dX9_crookedOf.at 36 rfl) rfl (by decide) rfl ?_
          refine sw_iinc (lo' := [some (vr (49)), some (vi (i)), some (vi (((u + 1 : Nat) : Int))), some (vi (((v : Nat) : Int))), some (vi (((w + 1 : Nat) : Int)))]) (dX9_crookedOf.at 37 rfl) rfl (by decide) rfl ?_
          refine sw_goto (tgt := 19) (dX9_crookedOf.at 38 rfl) (by decide) ?_
          exact hv
        · replace hv := hv.2.2.2 q
          refine sw_bipush (dX9_crookedOf.at 30 rfl) (by decide) ?_
          refine sw_iload_n (dX9_crookedOf.at 31 rfl) rfl rfl ?_
          refine sw_imul (dX9_crookedOf.at 32 rfl) ?_
          refine sw_topI (y := ((100 * v : Nat) : Int)) (by first | rfl | (congr 1)) ?_
          refine sw_iload (dX9_crookedOf.at 33 rfl) rfl ?_
          refine sw_iadd (dX9_crookedOf.at 34 rfl) ?_
          refine sw_topI (y := (((100 * v) + w : Nat) : Int)) (by first | rfl | (congr 1)) ?_
          exact sw_iret (dX9_crookedOf.at 35 rfl) rfl (Nat.le_refl _) (Nat.le_refl _) hv
      · replace hv := hv.2 (bz_n0 q)
        refine sw_goto (tgt := 67) (dX9_crookedOf.at 26 rfl) (by decide) ?_
        refine sw_iinc (lo' := [some (vr (49)), some (vi (i)), some (vi (((u : Nat) : Int))), some (vi (((v : Nat) : Int))), some (vi (((w + 1 : Nat) : Int)))]) (dX9_crookedOf.at 37 rfl) rfl (by decide) rfl ?_
        refine sw_goto (tgt := 19) (dX9_crookedOf.at 38 rfl) (by decide) ?_
        exact hv

set_option maxHeartbeats 4000000 in
theorem lp_X9_crookedOf_19 {G : GG} {j nw nx gn : Nat} {g : Nat → Sh} {c : Nat → Nat → Int} {post : Option AV → AM → Prop} {P : GD} {T : PT} {v : Nat} {k1 : Nat} {i : Int} (hM : ML c P) (hV : GV P) (hC : GC P) (hD : PD P T c) (hT : HT P T) (hi : -2147483648 ≤ i ∧ i < 2147483648) (hv : v < gN P) (hk1 : ∀ u2 : Nat, u2 ≤ v * 60 + 60 → post (some (vi (kall (prR P T) (fun _ => 0) (gN P) i (fun u => if i = -1 then (u : Int) else -1) k1 (v + 1) u2))) (S nw nx g, 78 + gn, c) → SW G (j + 4) mX9_crookedOf 8 [some (vr (49)), some (vi (i)), some (vi (((u2 : Nat) : Int))), some (vi (((v + 1 : Nat) : Int))), none] [] (S nw nx g, 78 + gn, c) B0 post) : ∀ (k : Nat) (w : Nat) (u : Nat), w + k = gN P → (u ≤ v * 60 + w) → (post (some (vi (krow (prR P T v) v i (fun u2 => kall (prR P T) (fun _ => 0) (gN P) i (fun u => if i = -1 then (u : Int) else -1) k1 (v + 1) u2) k w u))) (S nw nx g, 78 + gn, c)) → SW G (j + 4) mX9_crookedOf 19 [some (vr (49)), some (vi (i)), some (vi (((u : Nat) : Int))), some (vi (((v : Nat) : Int))), some (vi (((w : Nat) : Int)))] [] (S nw nx g, 78 + gn, c) B0 post := by
  intro k
  induction k with
  | zero =>
    intro w u hrel hu K
    have h60 := GV_N hV
    rw [krow] at K
    refine g_X9_crookedOf_19 hM hV hC hD hT ?_
    refine ⟨?_, ?_, ⟨fun q => ?_, fun q => ⟨?_, ?_, ⟨fun q => ?_, fun q => ⟨?_, ?_, ⟨fun q => ⟨?_, ?_, ⟨fun q => ?_, fun q => ?_⟩⟩, fun q => ?_⟩⟩⟩⟩⟩⟩
    all_goals first | omega | exact hk1 u (by omega) K | (exfalso; omega)
  | succ k ih =>
    intro w u hrel hu K
    have h60 := GV_N hV
    rw [krow] at K
    refine g_X9_crookedOf_19 hM hV hC hD hT ?_
    cases hp : prR P T v w with
    | false =>
      rw [hp, if_neg (by decide)] at K
      rw [prR] at hp
      refine ⟨?_, ?_, ⟨fun q => ?_, fun q => ⟨?_, ?_, ⟨fun q => ?_, fun q => ⟨?_, ?_, ⟨fun q => ⟨?_, ?_, ⟨fun q => ?_, fun q => ?_⟩⟩, fun q => ?_⟩⟩⟩⟩⟩⟩
      all_goals first | omega | assumption | (exfalso; omega) | exact ih _ _ (by omega) (by omega) K | (exfalso; rw [‹(gD P w).testBit v = true›, ‹onT T v w = false›] at hp; exact absurd hp (by decide))
    | true =>
      rw [hp, if_pos rfl] at K
      rw [prR, Bool.and_eq_true] at hp
      have c8 : onT T v w = false := by simpa using hp.2
      by_cases hui : (u : Int) = i
      · rw [if_pos hui] at K
        refine ⟨?_, ?_, ⟨fun q => ?_, fun q => ⟨?_, ?_, ⟨fun q => ?_, fun q => ⟨?_, ?_, ⟨fun q => ⟨?_, ?_, ⟨fun q => ?_, fun q => ?_⟩⟩, fun q => ?_⟩⟩⟩⟩⟩⟩
        all_goals first | omega | assumption | (exfalso; omega) | exact K | (exfalso; rw [hp.1] at q; exact absurd q (by decide)) | (exfalso; rw [c8] at q; exact absurd q (by decide))
      · rw [if_neg hui] at K
        refine ⟨?_, ?_, ⟨fun q => ?_, fun q => ⟨?_, ?_, ⟨fun q => ?_, fun q => ⟨?_, ?_, ⟨fun q => ⟨?_, ?_, ⟨fun q => ?_, fun q => ?_⟩⟩, fun q => ?_⟩⟩⟩⟩⟩⟩
        all_goals first | omega | assumption | (exfalso; omega) | exact ih _ _ (by omega) (by omega) K | (exfalso; rw [hp.1] at q; exact absurd q (by decide)) | (exfalso; rw [c8] at q; exact absurd q (by decide))

set_option maxHeartbeats 2000000 in
set_option maxRecDepth 20000 in
theorem g_X9_crookedOf_8 {G : GG} {j nw nx gn : Nat} {g : Nat → Sh} {c : Nat → Nat → Int} {post : Option AV → AM → Prop} {i : Int} {P : GD} {T : PT} {v : Nat} {u : Nat} (hM : ML c P) (hV : GV P) (hC : GC P) (hD : PD P T c) (hT : HT P T)  (hv : (v < 2147483648) ∧ (gN P < 2147483648) ∧ (((gN P ≤ v) → (-2147483648 ≤ i ∧ i < 2147483648) ∧ (((i ≠ (-1)) → post (some (vi ((-1)))) (S nw nx g, 78 + gn, c)) ∧ ((i = (-1)) → post (some (vi (((u : Nat) : Int)))) (S nw nx g, 78 + gn, c)))) ∧ ((¬ (gN P ≤ v)) → SW G (j + 4) mX9_crookedOf 19 [some (vr (49)), some (vi (i)), some (vi (((u : Nat) : Int))), some (vi (((v : Nat) : Int))), some (vi (0))] [] (S nw nx g, 78 + gn, c) B0 post))) :
    SW G (j + 4) mX9_crookedOf 8 [some (vr (49)), some (vi (i)), some (vi (((u : Nat) : Int))), some (vi (((v : Nat) : Int))), none] [] (S nw nx g, 78 + gn, c) B0 post := by
  refine sw_iload_n (dX9_crookedOf.at 6 rfl) rfl rfl ?_
  refine sw_aload_n (dX9_crookedOf.at 7 rfl) rfl rfl ?_
  refine sw_getIE (w := ((gN P : Nat) : Int)) (dX9_crookedOf.at 8 rfl) fp_X9_196 (S_lt 49 (by decide)) (S_49 nw nx g) rfl hM.1.2.1 ?_
  refine sw_icmpN_ge v (gN P) (tgt := 79) (dX9_crookedOf.at 9 rfl) (by decide) hv.1 hv.2.1 (fun q => ?_) (fun q => ?_)
  · replace hv := hv.2.2.1 q
    refine sw_iload_n (dX9_crookedOf.at 41 rfl) rfl rfl ?_
    refine sw_iconst (dX9_crookedOf.at 42 rfl) ?_
    refine sw_icmp_ne (tgt := 88) (dX9_crookedOf.at 43 rfl) (by decide) hv.1 (by decide) (fun q => ?_) (fun q => ?_)
    · replace hv := hv.2.1 q
      refine sw_iconst (dX9_crookedOf.at 46 rfl) ?_
      exact sw_iret (dX9_crookedOf.at 47 rfl) rfl (Nat.le_refl _) (Nat.le_refl _) hv
    · replace hv := hv.2.2 q
      refine sw_iload_n (dX9_crookedOf.at 44 rfl) rfl rfl ?_
      refine sw_goto (tgt := 89) (dX9_crookedOf.at 45 rfl) (by decide) ?_
      exact sw_iret (dX9_crookedOf.at 47 rfl) rfl (Nat.le_refl _) (Nat.le_refl _) hv
  · replace hv := hv.2.2.2 q
    refine sw_iconst (dX9_crookedOf.at 10 rfl) ?_
    refine sw_istore (lo' := [some (vr (49)), some (vi (i)), some (vi (((u : Nat) : Int))), some (vi (((v : Nat) : Int))), some (vi (0))]) (dX9_crookedOf.at 11 rfl) (by decide) rfl ?_
    exact hv

set_option maxHeartbeats 4000000 in
theorem lp_X9_crookedOf_8 {G : GG} {j nw nx gn : Nat} {g : Nat → Sh} {c : Nat → Nat → Int} {post : Option AV → AM → Prop} {P : GD} {T : PT} {i : Int} (hM : ML c P) (hV : GV P) (hC : GC P) (hD : PD P T c) (hT : HT P T) (hi : -2147483648 ≤ i ∧ i < 2147483648) : ∀ (k : Nat) (v : Nat) (u : Nat), v + k = gN P → (u ≤ v * 60) → (post (some (vi (kall (prR P T) (fun _ => 0) (gN P) i (fun u => if i = -1 then (u : Int) else -1) k v u))) (S nw nx g, 78 + gn, c)) → SW G (j + 4) mX9_crookedOf 8 [some (vr (49)), some (vi (i)), some (vi (((u : Nat) : Int))), some (vi (((v : Nat) : Int))), none] [] (S nw nx g, 78 + gn, c) B0 post := by
  intro k
  induction k with
  | zero =>
    intro v u hrel hu K
    have h60 := GV_N hV
    rw [kall] at K
    refine g_X9_crookedOf_8 hM hV hC hD hT ?_
    refine ⟨?_, ?_, ⟨fun q => ⟨?_, ⟨fun q => ?_, fun q => ?_⟩⟩, fun q => ?_⟩⟩
    all_goals first | omega | (exfalso; omega) | (rw [if_pos (by assumption)] at K; exact K) | (rw [if_neg (by assumption)] at K; exact K)
  | succ k ih =>
    intro v u hrel hu K
    have h60 := GV_N hV
    rw [kall] at K
    refine g_X9_crookedOf_8 hM hV hC hD hT ?_
    refine ⟨?_, ?_, ⟨fun q => ⟨?_, ⟨fun q => ?_, fun q => ?_⟩⟩, fun q => ?_⟩⟩
    all_goals first | omega | (exfalso; omega) | exact lp_X9_crookedOf_19 hM hV hC hD hT hi (by omega) (fun u2 h1 h2 => ih _ _ (by omega) (by omega) h2) (gN P) 0 u (by omega) (by omega) K

set_option maxHeartbeats 2000000 in
set_option maxRecDepth 20000 in
theorem g_X9_crookedOf_0 {G : GG} {j nw nx gn : Nat} {g : Nat → Sh} {c : Nat → Nat → Int} {post : Option AV → AM → Prop} {i : Int} {P : GD} {T : PT} (hM : ML c P) (hV : GV P) (hC : GC P) (hG : GP P T) (hR : RR P T c)  (hv : (∀ c_1 : Nat → Nat → Int, (SD c c_1 ∧ RD P T c_1) → SW G (j + 4) mX9_crookedOf 8 [some (vr (49)), some (vi (i)), some (vi (0)), some (vi (0)), none] [] (S nw nx g, 78 + gn, c_1) B0 post)) :
    SW G (j + 4) mX9_crookedOf 0 [some (vr (49)), some (vi (i)), none, none, none] [] (S nw nx g, 78 + gn, c) B0 post := by
  refine sw_aload_n (dX9_crookedOf.at 0 rfl) rfl rfl ?_
  refine sw_callV (B' := B0) (As := []) (mc := 0) (ms := 0) (dX9_crookedOf.at 1 rfl) lk_X9_305 (S_lt 49 (by decide)) (S_49 nw nx g) rfl rfl (Nat.le_of_ble_eq_true rfl) rfl (Nat.le_refl _) (Nat.le_refl _) ?_
  refine c_X9_laysPairs  (j := j + 0) hM hV hC hG hR (fun c_1 h_1 => ?_)
  replace hv := hv c_1 h_1
  refine sw_iconst (dX9_crookedOf.at 2 rfl) ?_
  refine sw_istore_n (lo' := [some (vr (49)), some (vi (i)), some (vi (0)), none, none]) (dX9_crookedOf.at 3 rfl) rfl (by decide) rfl ?_
  refine sw_iconst (dX9_crookedOf.at 4 rfl) ?_
  refine sw_istore_n (lo' := [some (vr (49)), some (vi (i)), some (vi (0)), some (vi (0)), none]) (dX9_crookedOf.at 5 rfl) rfl (by decide) rfl ?_
  exact hv

theorem kall_pr {P : GD} {T : PT} (hV : GV P) (hG : GP P T) (hT : HT P T) (h0 : hP0 P T) (i : Int) (e : Nat → Int) : kall (prR P T) (fun _ => 0) (gN P) i e (gN P) 0 0 = kall (crT T) id (gN P) i e (gN P) 0 0 := by
  rw [kall_cong (lo := fun _ => 0) (pr2 := fun v w => decide (v < gN P ∧ w < gN P) && crT T v w) (fun v w hv hw => by rw [prR, cr_on hV hG hT h0 hv hw]; simp [hv, hw]) _ _ _ (by omega) (Nat.zero_le _) (fun v => Nat.zero_le v)]
  rw [kall_0 (fun v w hvw => ?_) _ _ _ (by omega)]
  · exact kall_cong (lo := id) (fun v w hv hw => by simp [hv, hw]) _ _ _ (by omega) (Nat.zero_le _) (fun v => Nat.le_refl v)
  · by_cases h : v < gN P ∧ w < gN P
    · rw [decide_eq_true h, Bool.true_and, ← cr_on hV hG hT h0 h.1 h.2]
      have p9 := hG.2.2 v w h.1 h.2
      cases hb : (gD P w).testBit v with
      | false => rfl
      | true => have := (p9.2.2.1 (by omega) hb).2; omega
    · rw [decide_eq_false h, Bool.false_and]
theorem c_X9_crookedOf {G : GG} {j nw nx gn : Nat} {g : Nat → Sh} {c : Nat → Nat → Int} {post : Option AV → AM → Prop} {P : GD} {T : PT} {i : Int} (hM : ML c P) (hV : GV P) (hC : GC P) (hG : GP P T) (hR : RR P T c) (hT : HT P T) (h0 : hP0 P T) (p1 : -2147483648 ≤ (i : Int) ∧ (i : Int) < 2147483648) (K : ∀ c2 : Nat → Nat → Int, (SD c c2 ∧ RD P T c2) → post (some (vi (kall (crT T) id (gN P) i (fun u => if i = -1 then (u : Int) else -1) (gN P) 0 0))) (S nw nx g, 78 + gn, c2)) : SM G (j + 5) mX9_crookedOf [vr 49, vi i] (S nw nx g, 78 + gn, c) 0 0 post := by
  refine sm_of wX9_crookedOf rfl (Nat.le_of_ble_eq_true rfl) ?_
  refine g_X9_crookedOf_0 hM hV hC hG hR (fun c_1 h_1 => ?_)
  exact lp_X9_crookedOf_8 (ML_SD hM h_1.1) hV hC h_1.2.2 hT p1 (gN P) 0 0 (by omega) (by omega) (by rw [kall_pr hV hG hT h0]; exact K c_1 h_1)

set_option maxHeartbeats 2000000 in
set_option maxRecDepth 20000 in
theorem g_X9_crooked_0 {G : GG} {j nw nx gn : Nat} {g : Nat → Sh} {c : Nat → Nat → Int} {post : Option AV → AM → Prop} {P : GD} {T : PT} (hM : ML c P) (hV : GV P) (hC : GC P) (hG : GP P T) (hR : RR P T c) (hT : HT P T) (h0 : hP0 P T)  (hv : (((decide (0 < gN P)) = false) → post (some (vi ((-2)))) (S nw nx g, 78 + gn, c)) ∧ (((decide (0 < gN P)) = true) → (-2147483648 ≤ ((-1) : Int) ∧ ((-1) : Int) < 2147483648) ∧ (∀ c_1 : Nat → Nat → Int, (SD c c_1 ∧ RD P T c_1) → post (some (vi (kall (crT T) id (gN P) (-1) (fun u => if (-1) = (-1 : Int) then (u : Int) else -1) (gN P) 0 0))) (S nw nx g, 78 + gn, c_1)))) :
    SW G (j + 5) mX9_crooked 0 [some (vr (49))] [] (S nw nx g, 78 + gn, c) B0 post := by
  refine sw_aload_n (dX9_crooked.at 0 rfl) rfl rfl ?_
  refine sw_callV (B' := B0) (As := []) (mc := 0) (ms := 0) (dX9_crooked.at 1 rfl) lk_X9_248 (S_lt 49 (by decide)) (S_49 nw nx g) rfl rfl (Nat.le_of_ble_eq_true rfl) rfl (Nat.le_refl _) (Nat.le_refl _) ?_
  refine c_X9_is  (j := j + 4) hM hV ?_
  refine sw_if_eq (tgt := 15) (dX9_crooked.at 2 rfl) (by decide) (bz_rng _) (fun q => ?_) (fun q => ?_)
  · replace hv := hv.1 (bz_0 q)
    refine sw_bipush (dX9_crooked.at 7 rfl) (by decide) ?_
    exact sw_iret (dX9_crooked.at 8 rfl) rfl (Nat.le_refl _) (Nat.le_refl _) hv
  · replace hv := hv.2 (bz_n0 q)
    refine sw_aload_n (dX9_crooked.at 3 rfl) rfl rfl ?_
    refine sw_iconst (dX9_crooked.at 4 rfl) ?_
    refine sw_callV (B' := B0) (As := [vi ((-1))]) (mc := 0) (ms := 0) (dX9_crooked.at 5 rfl) lk_X9_336 (S_lt 49 (by decide)) (S_49 nw nx g) rfl rfl (Nat.le_of_ble_eq_true rfl) rfl (Nat.le_refl _) (Nat.le_refl _) ?_
    refine c_X9_crookedOf (i := (-1)) (j := j + 0) hM hV hC hG hR hT h0 hv.1 (fun c_1 h_1 => ?_)
    replace hv := hv.2 c_1 h_1
    refine sw_goto (tgt := 17) (dX9_crooked.at 6 rfl) (by decide) ?_
    exact sw_iret (dX9_crooked.at 8 rfl) rfl (Nat.le_refl _) (Nat.le_refl _) hv

set_option maxHeartbeats 2000000 in
theorem c_X9_crooked {G : GG} {j nw nx gn : Nat} {g : Nat → Sh} {c : Nat → Nat → Int} {post : Option AV → AM → Prop} {P : GD} {T : PT} (hM : ML c P) (hV : GV P) (hC : GC P) (hG : GP P T) (hR : RR P T c) (hT : HT P T) (h0 : hP0 P T) (K : ∀ c2 : Nat → Nat → Int, (SD c c2 ∧ RR P T c2) → post (some (vi (q_crooked P T))) (S nw nx g, 78 + gn, c2)) : SM G (j + 6) mX9_crooked [vr 49] (S nw nx g, 78 + gn, c) 0 0 post := by
  refine sm_of wX9_crooked rfl (Nat.le_of_ble_eq_true rfl) ?_
  refine g_X9_crooked_0 hM hV hC hG hR hT h0 ?_
  by_cases hn : gN P = 0
  · rw [q_crooked, if_pos hn] at K
    have K0 := K c ⟨SD_rf, hR⟩
    refine ⟨fun q => ?_, fun q => ⟨?_, fun c_1 h_1 => ?_⟩⟩
    all_goals (try simp only [decide_eq_true_eq, decide_eq_false_iff_not] at *)
    all_goals first | omega | exact K0 | (exfalso; omega)
  · rw [q_crooked, if_neg hn] at K
    refine ⟨fun q => ?_, fun q => ⟨?_, fun c_1 h_1 => ?_⟩⟩
    all_goals (try simp only [decide_eq_true_eq, decide_eq_false_iff_not] at *)
    all_goals first | omega | (exfalso; omega) | exact K _ ⟨h_1.1, Or.inr h_1.2⟩

set_option maxHeartbeats 2000000 in
set_option maxRecDepth 20000 in
theorem g_X9_crookedPair_0n {G : GG} {j nw nx gn : Nat} {g : Nat → Sh} {c : Nat → Nat → Int} {post : Option AV → AM → Prop} {i : Int} {P : GD} {T : PT} (hM : ML c P) (hV : GV P) (hC : GC P) (hG : GP P T) (hR : RR P T c) (hT : HT P T) (h0 : hP0 P T)  (hv : (((decide (0 < gN P)) = false) → post (some (vi ((-2)))) (S nw nx g, 78 + gn, c)) ∧ (((decide (0 < gN P)) = true) → (-2147483648 ≤ i ∧ i < 2147483648) ∧ (((i < 0) → post (some (vi ((-2)))) (S nw nx g, 78 + gn, c)) ∧ ((¬ (i < 0)) → (-2147483648 ≤ (i : Int) ∧ (i : Int) < 2147483648) ∧ (∀ c_1 : Nat → Nat → Int, (SD c c_1 ∧ RD P T c_1) → post (some (vi (kall (crT T) id (gN P) i (fun u => if i = (-1 : Int) then (u : Int) else -1) (gN P) 0 0))) (S nw nx g, 78 + gn, c_1)))))) :
    SW G (j + 5) mX9_crookedPair 0 [some (vr (49)), some (vi (i))] [] (S nw nx g, 78 + gn, c) B0 post := by
  refine sw_aload_n (dX9_crookedPair.at 0 rfl) rfl rfl ?_
  refine sw_callV (B' := B0) (As := []) (mc := 0) (ms := 0) (dX9_crookedPair.at 1 rfl) lk_X9_248 (S_lt 49 (by decide)) (S_49 nw nx g) rfl rfl (Nat.le_of_ble_eq_true rfl) rfl (Nat.le_refl _) (Nat.le_refl _) ?_
  refine c_X9_is  (j := j + 4) hM hV ?_
  refine sw_if_eq (tgt := 19) (dX9_crookedPair.at 2 rfl) (by decide) (bz_rng _) (fun q => ?_) (fun q => ?_)
  · replace hv := hv.1 (bz_0 q)
    refine sw_bipush (dX9_crookedPair.at 9 rfl) (by decide) ?_
    exact sw_iret (dX9_crookedPair.at 10 rfl) rfl (Nat.le_refl _) (Nat.le_refl _) hv
  · replace hv := hv.2 (bz_n0 q)
    refine sw_iload_n (dX9_crookedPair.at 3 rfl) rfl rfl ?_
    refine sw_if_lt (tgt := 19) (dX9_crookedPair.at 4 rfl) (by decide) hv.1 (fun q => ?_) (fun q => ?_)
    · replace hv := hv.2.1 q
      refine sw_bipush (dX9_crookedPair.at 9 rfl) (by decide) ?_
      exact sw_iret (dX9_crookedPair.at 10 rfl) rfl (Nat.le_refl _) (Nat.le_refl _) hv
    · replace hv := hv.2.2 q
      refine sw_aload_n (dX9_crookedPair.at 5 rfl) rfl rfl ?_
      refine sw_iload_n (dX9_crookedPair.at 6 rfl) rfl rfl ?_
      refine sw_callV (B' := B0) (As := [vi (i)]) (mc := 0) (ms := 0) (dX9_crookedPair.at 7 rfl) lk_X9_336 (S_lt 49 (by decide)) (S_49 nw nx g) rfl rfl (Nat.le_of_ble_eq_true rfl) rfl (Nat.le_refl _) (Nat.le_refl _) ?_
      refine c_X9_crookedOf (i := i) (j := j + 0) hM hV hC hG hR hT h0 hv.1 (fun c_1 h_1 => ?_)
      replace hv := hv.2 c_1 h_1
      refine sw_goto (tgt := 21) (dX9_crookedPair.at 8 rfl) (by decide) ?_
      exact sw_iret (dX9_crookedPair.at 10 rfl) rfl (Nat.le_refl _) (Nat.le_refl _) hv

set_option maxHeartbeats 2000000 in
set_option maxRecDepth 20000 in
theorem g_X9_crookedPair_0 {G : GG} {j nw nx gn : Nat} {g : Nat → Sh} {c : Nat → Nat → Int} {post : Option AV → AM → Prop} {i : Int} {P : GD} {T : PT} (hM : ML c P) (hV : GV P) (hC : GC P) (hG : GP P T) (hR : RR P T c) (hT : HT P T) (h0 : hP0 P T)  (hv : (((decide (0 < gN P)) = false) → post (some (vi ((-2)))) (S nw nx g, 78 + gn, c)) ∧ (((decide (0 < gN P)) = true) → (-2147483648 ≤ i ∧ i < 2147483648) ∧ (((i < 0) → post (some (vi ((-2)))) (S nw nx g, 78 + gn, c)) ∧ ((¬ (i < 0)) → (-2147483648 ≤ (i : Int) ∧ (i : Int) < 2147483648) ∧ (∀ c_1 : Nat → Nat → Int, (SD c c_1 ∧ RD P T c_1) → post (some (vi (kall (crT T) id (gN P) i (fun u => if i = (-1 : Int) then (u : Int) else -1) (gN P) 0 0))) (S nw nx g, 78 + gn, c_1)))))) :
    SW G (j + 5) mX9_crookedPair 0 [some (vr (49)), some (vi (i))] [] (S nw nx g, 78 + gn, c) B0 post := by
  refine sw_aload_n (dX9_crookedPair.at 0 rfl) rfl rfl ?_
  refine sw_callV (B' := B0) (As := []) (mc := 0) (ms := 0) (dX9_crookedPair.at 1 rfl) lk_X9_248 (S_lt 49 (by decide)) (S_49 nw nx g) rfl rfl (Nat.le_of_ble_eq_true rfl) rfl (Nat.le_refl _) (Nat.le_refl _) ?_
  refine c_X9_is  (j := j + 4) hM hV ?_
  refine sw_if_eq (tgt := 19) (dX9_crookedPair.at 2 rfl) (by decide) (bz_rng _) (fun q => ?_) (fun q => ?_)
  · replace hv := hv.1 (bz_0 q)
    refine sw_bipush (dX9_crookedPair.at 9 rfl) (by decide) ?_
    exact sw_iret (dX9_crookedPair.at 10 rfl) rfl (Nat.le_refl _) (Nat.le_refl _) hv
  · replace hv := hv.2 (bz_n0 q)
    refine sw_iload_n (dX9_crookedPair.at 3 rfl) rfl rfl ?_
    refine sw_if_lt (tgt := 19) (dX9_crookedPair.at 4 rfl) (by decide) hv.1 (fun q => ?_) (fun q => ?_)
    · replace hv := hv.2.1 q
      refine sw_bipush (dX9_crookedPair.at 9 rfl) (by decide) ?_
      exact sw_iret (dX9_crookedPair.at 10 rfl) rfl (Nat.le_refl _) (Nat.le_refl _) hv
    · replace hv := hv.2.2 q
      refine sw_aload_n (dX9_crookedPair.at 5 rfl) rfl rfl ?_
      refine sw_iload_n (dX9_crookedPair.at 6 rfl) rfl rfl ?_
      refine sw_callV (B' := B0) (As := [vi (i)]) (mc := 0) (ms := 0) (dX9_crookedPair.at 7 rfl) lk_X9_336 (S_lt 49 (by decide)) (S_49 nw nx g) rfl rfl (Nat.le_of_ble_eq_true rfl) rfl (Nat.le_refl _) (Nat.le_refl _) ?_
      refine c_X9_crookedOf (i := i) (j := j + 0) hM hV hC hG hR hT h0 hv.1 (fun c_1 h_1 => ?_)
      replace hv := hv.2 c_1 h_1
      refine sw_goto (tgt := 21) (dX9_crookedPair.at 8 rfl) (by decide) ?_
      exact sw_iret (dX9_crookedPair.at 10 rfl) rfl (Nat.le_refl _) (Nat.le_refl _) hv

set_option maxHeartbeats 4000000 in
theorem c_X9_crookedPair {G : GG} {j nw nx gn : Nat} {g : Nat → Sh} {c : Nat → Nat → Int} {post : Option AV → AM → Prop} {P : GD} {T : PT} {i : Int} (hM : ML c P) (hV : GV P) (hC : GC P) (hG : GP P T) (hR : RR P T c) (hT : HT P T) (h0 : hP0 P T) (p1 : -2147483648 ≤ i ∧ i < 2147483648) (K : ∀ c2 : Nat → Nat → Int, (SD c c2 ∧ RR P T c2) → post (some (vi (q_crookedPair P T i))) (S nw nx g, 78 + gn, c2)) : SM G (j + 6) mX9_crookedPair [vr (49), vi (i)] (S nw nx g, 78 + gn, c) 0 0 post := by
  refine sm_of wX9_crookedPair rfl (Nat.le_of_ble_eq_true rfl) ?_
  have hN60 := GV_N hV
  have hR5 := GV_R hV
  by_cases hv : ¬ gN P = 0 ∧ 0 ≤ i
  · skip
    have e : q_crookedPair P T i = kall (crT T) id (gN P) (i : Int) (fun _ => -1) (gN P) 0 0 := by
      rw [q_crookedPair, if_pos hv]
      
    rw [e] at K
    have K1 : ∀ (z : Int) (c2 : Nat → Nat → Int), ((SD c c2 ∧ RR P T c2)) → z = (kall (crT T) id (gN P) (i : Int) (fun _ => -1) (gN P) 0 0) → post (some (vi z)) (S nw nx g, 78 + gn, c2) := fun z c2 h e9 => e9 ▸ K c2 h
    have e9 : (fun u : Nat => if i = (-1 : Int) then (u : Int) else -1) = (fun _ => -1) := by
      funext u; rw [if_neg (by omega)]
    refine g_X9_crookedPair_0n hM hV hC hG hR hT h0 ?_
    refine ⟨fun q => ?_, fun q => ⟨?_, ⟨fun q => ?_, fun q => ⟨?_, fun c_1 h_1 => ?_⟩⟩⟩⟩
    all_goals first | omega | assumption | (exfalso; simp only [decide_eq_true_eq, decide_eq_false_iff_not] at *; omega) | (rw [e9]; exact K _ ⟨h_1.1, Or.inr h_1.2⟩) | exact K _ (by first | exact ⟨SD_rf, hR⟩ | exact ⟨h_1.1, Or.inr h_1.2⟩ | assumption | exact ⟨SD_tr h_1.1 (SD_SC h_2), Or.inr (RD_SC h_1.2 h_2)⟩ | exact ⟨SD_tr h_1.1 (SD_SC (SC_tr h_2 h_3)), Or.inr (RD_SC h_1.2 (SC_tr h_2 h_3))⟩) | (refine K1 _ _ (by first | exact ⟨SD_rf, hR⟩ | exact ⟨h_1.1, Or.inr h_1.2⟩ | assumption | exact ⟨SD_tr h_1.1 (SD_SC h_2), Or.inr (RD_SC h_1.2 h_2)⟩ | exact ⟨SD_tr h_1.1 (SD_SC (SC_tr h_2 h_3)), Or.inr (RD_SC h_1.2 (SC_tr h_2 h_3))⟩) ?_; first | rfl | (simp [bz, *]; done) | (split <;> first | rfl | omega))
  · have e : q_crookedPair P T i = (-2) := by rw [q_crookedPair, if_neg hv]
    rw [e] at K
    have K1 : ∀ (z : Int) (c2 : Nat → Nat → Int), ((SD c c2 ∧ RR P T c2)) → z = ((-2)) → post (some (vi z)) (S nw nx g, 78 + gn, c2) := fun z c2 h e9 => e9 ▸ K c2 h
    refine g_X9_crookedPair_0 hM hV hC hG hR hT h0 ?_
    refine ⟨fun q => ?_, fun q => ⟨?_, ⟨fun q => ?_, fun q => ⟨?_, fun c_1 h_1 => ?_⟩⟩⟩⟩
    all_goals first | omega | assumption | (exfalso; simp only [decide_eq_true_eq, decide_eq_false_iff_not] at *; omega) | exact K _ (by first | exact ⟨SD_rf, hR⟩ | exact ⟨h_1.1, Or.inr h_1.2⟩ | assumption | exact ⟨SD_tr h_1.1 (SD_SC h_2), Or.inr (RD_SC h_1.2 h_2)⟩ | exact ⟨SD_tr h_1.1 (SD_SC (SC_tr h_2 h_3)), Or.inr (RD_SC h_1.2 (SC_tr h_2 h_3))⟩) | (refine K1 _ _ (by first | exact ⟨SD_rf, hR⟩ | exact ⟨h_1.1, Or.inr h_1.2⟩ | assumption | exact ⟨SD_tr h_1.1 (SD_SC h_2), Or.inr (RD_SC h_1.2 h_2)⟩ | exact ⟨SD_tr h_1.1 (SD_SC (SC_tr h_2 h_3)), Or.inr (RD_SC h_1.2 (SC_tr h_2 h_3))⟩) ?_; first | rfl | (simp [bz, *]; done) | (split <;> first | rfl | omega))

