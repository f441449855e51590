def gEd (P : GD) (T : PT) (y x sd : Nat) : Bool := decide (andn (dsc P x sd) (dsc P y sd) ≠ 0) && (decide (muT P T x y ≠ 0) || decide (muT P T y x ≠ 0))
theorem muT_rng {P : GD} {T : PT} (hV : GV P) (hT : HT P T) {a b : Nat} (ha : a < gN P) (hb : b < gN P) : -2147483648 ≤ muT P T a b ∧ muT P T a b < 2147483648 := by
  rw [muT]; split
  · have := (hV.2.2.1 b hb).1
    have := hT.2.2 a b ((gL P b - gL P a - 1) / 2) ha hb (by omega)
    omega
  · omega
def isE (P : GD) (T : PT) (kd y x : Nat) : Bool := (decide (kd ≠ 1) && gEd P T y x 0) || (decide (kd ≠ 0) && gEd P T y x 1)
theorem isE_ed {P : GD} {T : PT} (hB : hBr P) {kd y x : Nat} (hy : y < gN P) (hx : x < gN P) : isE P T kd y x = (decide (muT P T (min y x) (max y x) ≠ 0) && edC P kd y x) := by
  have key : (decide (muT P T x y ≠ 0) || decide (muT P T y x ≠ 0)) = decide (muT P T (min y x) (max y x) ≠ 0) := by
    have z0 : ∀ a b, a < gN P → b < gN P → b ≤ a → muT P T a b = 0 := by
      intro a b ha hb hab
      rw [muT, if_neg (fun h => by have := hB.1 a b ha hb h.1; omega)]
    rcases Nat.le_total y x with h | h
    · rw [Nat.min_eq_left h, Nat.max_eq_right h, z0 x y hx hy h]; simp
    · rw [Nat.min_eq_right h, Nat.max_eq_left h, z0 y x hy hx h]; simp
  rw [isE, gEd, gEd, key, edC, show dsc P x 0 = gF P x from rfl, show dsc P y 0 = gF P y from rfl, show dsc P x 1 = gE P x from rfl, show dsc P y 1 = gE P y from rfl]
  cases decide (muT P T (min y x) (max y x) ≠ 0) <;> simp
theorem bitD_bit (p : Nat → Bool) : ∀ k z a t, (bitD p k z a).testBit t = (a.testBit t || (decide (z ≤ t ∧ t < z + k) && p t)) := by
  intro k
  induction k with
  | zero => intro z a t; have h : ¬ (z ≤ t ∧ t < z + 0) := by omega
            rw [decide_eq_false h]; simp [bitD]
  | succ k ih =>
    intro z a t
    rw [bitD, ih, Nat.testBit_or]
    by_cases e : t = z
    · subst e
      have h1 : ¬ (t + 1 ≤ t ∧ t < t + 1 + k) := by omega
      have h2 : t ≤ t ∧ t < t + (k + 1) := by omega
      rw [decide_eq_false h1, decide_eq_true h2]
      by_cases hp : p t
      · simp [hp, Nat.testBit_two_pow_self]
      · simp [hp]
    · have h1 : (z + 1 ≤ t ∧ t < z + 1 + k) ↔ (z ≤ t ∧ t < z + (k + 1)) := by omega
      have h2 : (if p z then 1 * 2 ^ z else 0).testBit t = false := by
        split
        · rw [Nat.one_mul]; exact Nat.testBit_two_pow_of_ne (Ne.symm e)
        · simp
      rw [h2, Bool.or_false]
      simp only [h1]
theorem rb_end {P : GD} {T : PT} (hB : hBr P) {kd y : Nat} (hy : y < gN P) : bitD (fun x => decide (x ≠ y) && isE P T kd y x) (gN P) 0 (1 * 2 ^ y) = bitsU (edB P (muT P T) kd y) (gN P) := by
  apply Nat.eq_of_testBit_eq
  intro t
  rw [bitD_bit, bitsU_bit, Nat.one_mul, Nat.testBit_two_pow, edB]
  by_cases ht : t < gN P
  · have h1 : 0 ≤ t ∧ t < 0 + gN P := by omega
    rw [decide_eq_true h1, isE_ed hB hy ht, decide_eq_true ht]
    by_cases e : y = t
    · subst e; simp
    · have e2 : t ≠ y := fun h => e h.symm
      simp [e, e2]
  · have h1 : ¬ (0 ≤ t ∧ t < 0 + gN P) := by omega
    have e : ¬ y = t := by omega
    rw [decide_eq_false h1]
    simp [ht, e]
set_option maxHeartbeats 2000000 in
set_option maxRecDepth 20000 in
theorem g_X9_isEdge_0 {G : GG} {j nw nx gn : Nat} {g : Nat → Sh} {c : Nat → Nat → Int} {post : Option AV → AM → Prop} {y : Nat} {x : Nat} {sd : Nat} {P : GD} {T : PT} (hM : ML c P) (hV : GV P) (hC : GC P) (hD : PD P T c)  (hv : (x < gN P) ∧ (sd < 2) ∧ ((y < gN P) ∧ (sd < 2) ∧ ((andn (dsc P x sd) (dsc P y sd) < 2147483648) ∧ (((andn (dsc P x sd) (dsc P y sd) = 0) → post (some (vi (0))) (S nw nx g, 78 + gn, c)) ∧ ((¬ (andn (dsc P x sd) (dsc P y sd) = 0)) → (x < gN P) ∧ (y < gN P) ∧ ((-2147483648 ≤ muT P T x y ∧ muT P T x y < 2147483648) ∧ (((muT P T x y ≠ 0) → post (some (vi (1))) (S nw nx g, 78 + gn, c)) ∧ ((muT P T x y = 0) → (y < gN P) ∧ (x < gN P) ∧ ((-2147483648 ≤ muT P T y x ∧ muT P T y x < 2147483648) ∧ (((muT P T y x = 0) → post (some (vi (0))) (S nw nx g, 78 + gn, c)) ∧ ((¬ (muT P T y x = 0)) → post (some (vi (1))) (S nw nx g, 78 + gn, c)))))))))))) :
    SW G (j + 3) mX9_isEdge 0 [some (vr (49)), some (vi (((y : Nat) : Int))), some (vi (((x : Nat) : Int))), some (vi (((sd : Nat) : Int)))] [] (S nw nx g, 78 + gn, c) B0 post := by
  refine sw_aload_n (dX9_isEdge.at 0 rfl) rfl rfl ?_
  refine sw_iload_n (dX9_isEdge.at 1 rfl) rfl rfl ?_
  refine sw_iload_n (dX9_isEdge.at 2 rfl) rfl rfl ?_
  refine sw_callV (B' := B0) (As := [vi (((x : Nat) : Int)), vi (((sd : Nat) : Int))]) (mc := 0) (ms := 0) (dX9_isEdge.at 3 rfl) lk_X9_278 (S_lt 49 (by decide)) (S_49 nw nx g) rfl rfl (Nat.le_of_ble_eq_true rfl) rfl (Nat.le_refl _) (Nat.le_refl _) ?_
  refine c_X9_shorterBits (x := x) (sd := sd) (j := j + 1) hM hV hC hv.1 hv.2.1 ?_
  replace hv := hv.2.2
  refine sw_aload_n (dX9_isEdge.at 4 rfl) rfl rfl ?_
  refine sw_iload_n (dX9_isEdge.at 5 rfl) rfl rfl ?_
  refine sw_iload_n (dX9_isEdge.at 6 rfl) rfl rfl ?_
  refine sw_callV (B' := B0) (As := [vi (((y : Nat) : Int)), vi (((sd : Nat) : Int))]) (mc := 0) (ms := 0) (dX9_isEdge.at 7 rfl) lk_X9_278 (S_lt 49 (by decide)) (S_49 nw nx g) rfl rfl (Nat.le_of_ble_eq_true rfl) rfl (Nat.le_refl _) (Nat.le_refl _) ?_
  refine c_X9_shorterBits (x := y) (sd := sd) (j := j + 1) hM hV hC hv.1 hv.2.1 ?_
  replace hv := hv.2.2
  refine sw_iconst (dX9_isEdge.at 8 rfl) ?_
  refine sw_ixor (dX9_isEdge.at 9 rfl) ?_
  refine sw_andC (dsc P x sd) (dsc P y sd) (dX9_isEdge.at 10 rfl) ?_
  refine sw_ifN_eq (andn (dsc P x sd) (dsc P y sd)) (tgt := 40) (dX9_isEdge.at 11 rfl) (by decide) hv.1 (fun q => ?_) (fun q => ?_)
  · replace hv := hv.2.1 q
    refine sw_iconst (dX9_isEdge.at 24 rfl) ?_
    exact sw_zret (dX9_isEdge.at 25 rfl) rfl (by decide) (Nat.le_refl _) (Nat.le_refl _) hv
  · replace hv := hv.2.2 q
    refine sw_aload_n (dX9_isEdge.at 12 rfl) rfl rfl ?_
    refine sw_iload_n (dX9_isEdge.at 13 rfl) rfl rfl ?_
    refine sw_iload_n (dX9_isEdge.at 14 rfl) rfl rfl ?_
    refine sw_callV (B' := B0) (As := [vi (((x : Nat) : Int)), vi (((y : Nat) : Int))]) (mc := 0) (ms := 0) (dX9_isEdge.at 15 rfl) lk_X9_319 (S_lt 49 (by decide)) (S_49 nw nx g) rfl rfl (Nat.le_of_ble_eq_true rfl) rfl (Nat.le_refl _) (Nat.le_refl _) ?_
    refine c_X9_muOf (v := x) (w := y) (j := j + 0) hM hV hC hD hv.1 hv.2.1 ?_
    replace hv := hv.2.2
    refine sw_if_ne (tgt := 36) (dX9_isEdge.at 16 rfl) (by decide) hv.1 (fun q => ?_) (fun q => ?_)
    · replace hv := hv.2.1 q
      refine sw_iconst (dX9_isEdge.at 22 rfl) ?_
      refine sw_goto (tgt := 41) (dX9_isEdge.at 23 rfl) (by decide) ?_
      exact sw_zret (dX9_isEdge.at 25 rfl) rfl (by decide) (Nat.le_refl _) (Nat.le_refl _) hv
    · replace hv := hv.2.2 q
      refine sw_aload_n (dX9_isEdge.at 17 rfl) rfl rfl ?_
      refine sw_iload_n (dX9_isEdge.at 18 rfl) rfl rfl ?_
      refine sw_iload_n (dX9_isEdge.at 19 rfl) rfl rfl ?_
      refine sw_callV (B' := B0) (As := [vi (((y : Nat) : Int)), vi (((x : Nat) : Int))]) (mc := 0) (ms := 0) (dX9_isEdge.at 20 rfl) lk_X9_319 (S_lt 49 (by decide)) (S_49 nw nx g) rfl rfl (Nat.le_of_ble_eq_true rfl) rfl (Nat.le_refl _) (Nat.le_refl _) ?_
      refine c_X9_muOf (v := y) (w := x) (j := j + 0) hM hV hC hD hv.1 hv.2.1 ?_
      replace hv := hv.2.2
      refine sw_if_eq (tgt := 40) (dX9_isEdge.at 21 rfl) (by decide) hv.1 (fun q => ?_) (fun q => ?_)
      · replace hv := hv.2.1 q
        refine sw_iconst (dX9_isEdge.at 24 rfl) ?_
        exact sw_zret (dX9_isEdge.at 25 rfl) rfl (by decide) (Nat.le_refl _) (Nat.le_refl _) hv
      · replace hv := hv.2.2 q
        refine sw_iconst (dX9_isEdge.at 22 rfl) ?_
        refine sw_goto (tgt := 41) (dX9_isEdge.at 23 rfl) (by decide) ?_
        exact sw_zret (dX9_isEdge.at 25 rfl) rfl (by decide) (Nat.le_refl _) (Nat.le_refl _) hv

set_option maxHeartbeats 2000000 in
theorem c_X9_isEdge {G : GG} {j nw nx gn : Nat} {g : Nat → Sh} {c : Nat → Nat → Int} {post : Option AV → AM → Prop} {P : GD} {T : PT} {y : Nat} {x : Nat} {sd : Nat} (hM : ML c P) (hV : GV P) (hC : GC P) (hD : PD P T c) (hT : HT P T) (p1 : y < gN P) (p2 : x < gN P) (p3 : sd < 2) (K : post (some (vi (bz (gEd P T y x sd)))) (S nw nx g, 78 + gn, c)) : SM G (j + 4) mX9_isEdge [vr (49), vi (((y : Nat) : Int)), vi (((x : Nat) : Int)), vi (((sd : Nat) : Int))] (S nw nx g, 78 + gn, c) 0 0 post := by
  refine sm_of wX9_isEdge rfl (Nat.le_of_ble_eq_true rfl) ?_
  refine g_X9_isEdge_0 hM hV hC hD ?_
  have h5 := GV_R hV
  have d1 := dsc_lt hC (sd := sd) p2
  have h32 := p2_R hV
  have n1 := andn_le (dsc P x sd) (dsc P y sd)
  have m1 := muT_rng hV hT p1 p2
  have m2 := muT_rng hV hT p2 p1
  have K1 : ∀ z : Int, z = bz (gEd P T y x sd) → post (some (vi z)) (S nw nx g, 78 + gn, c) := fun z h => h ▸ K
  refine ⟨?_, ?_, ⟨?_, ?_, ⟨?_, ⟨fun q => ?_, fun q => ⟨?_, ?_, ⟨?_, ⟨fun q => ?_, fun q => ⟨?_, ?_, ⟨?_, ⟨fun q => ?_, fun q => ?_⟩⟩⟩⟩⟩⟩⟩⟩⟩⟩
  all_goals first | omega | assumption | (refine K1 _ ?_; simp [gEd, bz, *]; done)

set_option maxHeartbeats 2000000 in
set_option maxRecDepth 20000 in
theorem g_X9_laysReach_25 {G : GG} {j nw nx gn : Nat} {g : Nat → Sh} {c : Nat → Nat → Int} {post : Option AV → AM → Prop} {kd : Nat} {P : GD} {T : PT} {F : Nat → Int} {a : Nat} {x : Nat} {y : Nat} (hM : ML c P) (hV : GV P) (hC : GC P) (hD : PD P T c) (hT : HT P T) (hFa : F y = ((a : Nat) : Int))  (hv : (x < 2147483648) ∧ (gN P < 2147483648) ∧ (((gN P ≤ x) → SW G (j + 4) mX9_laysReach 6 [some (vr (49)), some (vi (((kd : Nat) : Int))), some (vi (((y + 1 : Nat) : Int))), none, none] [] (S nw nx g, 78 + gn, (wr c 68 F)) B0 post) ∧ ((¬ (gN P ≤ x)) → (kd < 2147483648) ∧ (((kd = 1) → (kd < 2147483648) ∧ (((kd = 0) → (y < gN P) ∧ ((x < 2147483648) ∧ (y < 2147483648) ∧ (((x = y) → (y < 60) ∧ (SW G (j + 4) mX9_laysReach 25 [some (vr (49)), some (vi (((kd : Nat) : Int))), some (vi (((y : Nat) : Int))), some (vi (((x + 1 : Nat) : Int))), none] [] (S nw nx g, 78 + gn, (wr c 68 (u1 F y ((a ||| 0 : Nat) : Int)))) B0 post)) ∧ ((¬ (x = y)) → (y < 60) ∧ (SW G (j + 4) mX9_laysReach 25 [some (vr (49)), some (vi (((kd : Nat) : Int))), some (vi (((y : Nat) : Int))), some (vi (((x + 1 : Nat) : Int))), none] [] (S nw nx g, 78 + gn, (wr c 68 (u1 F y ((a ||| 0 : Nat) : Int)))) B0 post))))) ∧ ((¬ (kd = 0)) → (y < gN P) ∧ (x < gN P) ∧ (1 < 2) ∧ ((((gEd P T y x 1) = false) → (y < gN P) ∧ ((x < 2147483648) ∧ (y < 2147483648) ∧ (((x = y) → (y < 60) ∧ (SW G (j + 4) mX9_laysReach 25 [some (vr (49)), some (vi (((kd : Nat) : Int))), some (vi (((y : Nat) : Int))), some (vi (((x + 1 : Nat) : Int))), none] [] (S nw nx g, 78 + gn, (wr c 68 (u1 F y ((a ||| 0 : Nat) : Int)))) B0 post)) ∧ ((¬ (x = y)) → (y < 60) ∧ (SW G (j + 4) mX9_laysReach 25 [some (vr (49)), some (vi (((kd : Nat) : Int))), some (vi (((y : Nat) : Int))), some (vi (((x + 1 : Nat) : Int))), none] [] (S nw nx g, 78 + gn, (wr c 68 (u1 F y ((a ||| 0 : Nat) : Int)))) B0 post))))) ∧ (((gEd P T y x 1) = true) → (y < gN P) ∧ ((x < 2147483648) ∧ (y < 2147483648) ∧ (((x = y) → (y < 60) ∧ (SW G (j + 4) mX9_laysReach 25 [some (vr (49)), some (vi (((kd : Nat) : Int))), some (vi (((y : Nat) : Int))), some (vi (((x + 1 : Nat) : Int))), none] [] (S nw nx g, 78 + gn, (wr c 68 (u1 F y ((a ||| 0 : Nat) : Int)))) B0 post)) ∧ ((¬ (x = y)) → (x < 64) ∧ ((y < 60) ∧ (SW G (j + 4) mX9_laysReach 25 [some (vr (49)), some (vi (((kd : Nat) : Int))), some (vi (((y : Nat) : Int))), some (vi (((x + 1 : Nat) : Int))), none] [] (S nw nx g, 78 + gn, (wr c 68 (u1 F y ((a ||| (1 * 2 ^ x) : Nat) : Int)))) B0 post)))))))))) ∧ ((¬ (kd = 1)) → (y < gN P) ∧ (x < gN P) ∧ (0 < 2) ∧ ((((gEd P T y x 0) = true) → (y < gN P) ∧ ((x < 2147483648) ∧ (y < 2147483648) ∧ (((x = y) → (y < 60) ∧ (SW G (j + 4) mX9_laysReach 25 [some (vr (49)), some (vi (((kd : Nat) : Int))), some (vi (((y : Nat) : Int))), some (vi (((x + 1 : Nat) : Int))), none] [] (S nw nx g, 78 + gn, (wr c 68 (u1 F y ((a ||| 0 : Nat) : Int)))) B0 post)) ∧ ((¬ (x = y)) → (x < 64) ∧ ((y < 60) ∧ (SW G (j + 4) mX9_laysReach 25 [some (vr (49)), some (vi (((kd : Nat) : Int))), some (vi (((y : Nat) : Int))), some (vi (((x + 1 : Nat) : Int))), none] [] (S nw nx g, 78 + gn, (wr c 68 (u1 F y ((a ||| (1 * 2 ^ x) : Nat) : Int)))) B0 post)))))) ∧ (((gEd P T y x 0) = false) → (kd < 2147483648) ∧ (((kd = 0) → (y < gN P) ∧ ((x < 2147483648) ∧ (y < 2147483648) ∧ (((x = y) → (y < 60) ∧ (SW G (j + 4) mX9_laysReach 25 [some (vr (49)), some (vi (((kd : Nat) : Int))), some (vi (((y : Nat) : Int))), some (vi (((x + 1 : Nat) : Int))), none] [] (S nw nx g, 78 + gn, (wr c 68 (u1 F y ((a ||| 0 : Nat) : Int)))) B0 post)) ∧ ((¬ (x = y)) → (y < 60) ∧ (SW G (j + 4) mX9_laysReach 25 [some (vr (49)), some (vi (((kd : Nat) : Int))), some (vi (((y : Nat) : Int))), some (vi (((x + 1 : Nat) : Int))), none] [] (S nw nx g, 78 + gn, (wr c 68 (u1 F y ((a ||| 0 : Nat) : Int)))) B0 post))))) ∧ ((¬ (kd = 0)) → (y < gN P) ∧ (x < gN P) ∧ (1 < 2) ∧ ((((gEd P T y x 1) = false) → (y < gN P) ∧ ((x < 2147483648) ∧ (y < 2147483648) ∧ (((x = y) → (y < 60) ∧ (SW G (j + 4) mX9_laysReach 25 [some (vr (49)), some (vi (((kd : Nat) : Int))), some (vi (((y : Nat) : Int))), some (vi (((x + 1 : Nat) : Int))), none] [] (S nw nx g, 78 + gn, (wr c 68 (u1 F y ((a ||| 0 : Nat) : Int)))) B0 post)) ∧ ((¬ (x = y)) → (y < 60) ∧ (SW G (j + 4) mX9_laysReach 25 [some (vr (49)), some (vi (((kd : Nat) : Int))), some (vi (((y : Nat) : Int))), some (vi (((x + 1 : Nat) : Int))), none] [] (S nw nx g, 78 + gn, (wr c 68 (u1 F y ((a ||| 0 : Nat) : Int)))) B0 post))))) ∧ (((gEd P T y x 1) = true) → (y < gN P) ∧ ((x < 2147483648) ∧ (y < 2147483648) ∧ (((x = y) → (y < 60) ∧ (SW G (j + 4) mX9_laysReach 25 [some (vr (49)), some (vi (((kd : Nat) : Int))), some (vi (((y : Nat) : Int))), some (vi (((x + 1 : Nat) : Int))), none] [] (S nw nx g, 78 + gn, (wr c 68 (u1 F y ((a ||| 0 : Nat) : Int)))) B0 post)) ∧ ((¬ (x = y)) → (x < 64) ∧ ((y < 60) ∧ (SW G (j + 4) mX9_laysReach 25 [some (vr (49)), some (vi (((kd : Nat) : Int))), some (vi (((y : Nat) : Int))), some (vi (((x + 1 : Nat) : Int))), none] [] (S nw nx g, 78 + gn, (wr c 68 (u1 F y ((a ||| (1 * 2 ^ x) : Nat) : Int)))) B0 post)))))))))))))))) :
    SW G (j + 4) mX9_laysReach 25 [some (vr (49)), some (vi (((kd : Nat) : Int))), some (vi (((y : Nat) : Int))), some (vi (((x : Nat) : Int))), none] [] (S nw nx g, 78 + gn, (wr c 68 F)) B0 post := by
  refine sw_iload_n (dX9_laysReach_0.at 17 rfl) rfl rfl ?_
  refine sw_aload_n (dX9_laysReach_0.at 18 rfl) rfl rfl ?_
  refine sw_getIE (w := ((gN P : Nat) : Int)) (dX9_laysReach_0.at 19 rfl) fp_X9_196 (S_lt 49 (by decide)) (S_49 nw nx g) rfl ((wr_off (c := c) (a := 68) (f := F) (i := 49) (k := 22) (by decide)).trans hM.1.2.1) ?_
  refine sw_icmpN_ge x (gN P) (tgt := 101) (dX9_laysReach_0.at 20 rfl) (by decide) hv.1 hv.2.1 (fun q => ?_) (fun q => ?_)
  · replace hv := hv.2.2.1 q
    refine sw_iinc (lo' := [some (vr (49)), some (vi (((kd : Nat) : Int))), some (vi (((y + 1 : Nat) : Int))), some (vi (((x : Nat) : Int))), none]) (dX9_laysReach_1.at 11 rfl) rfl (by decide) rfl ?_
    refine sw_goto (tgt := 6) (dX9_laysReach_1.at 12 rfl) (by decide) ?_
    exact sw_mask (bs := [true, true, true, false, false]) hv
  · replace hv := hv.2.2.2 q
    refine sw_iload_n (dX9_laysReach_0.at 21 rfl) rfl rfl ?_
    refine sw_iconst (dX9_laysReach_0.at 22 rfl) ?_
    refine sw_icmpN_eq kd 1 (tgt := 48) (dX9_laysReach_0.at 23 rfl) (by decide) hv.1 (by decide) (fun q => ?_) (fun q => ?_)
    · replace hv := hv.2.1 q
      refine sw_iload_n (dX9_laysReach_0.at 30 rfl) rfl rfl ?_
      refine sw_ifN_eq kd (tgt := 66) (dX9_laysReach_0.at 31 rfl) (by decide) hv.1 (fun q => ?_) (fun q => ?_)
      · replace hv := hv.2.1 q
        refine sw_iconst (dX9_laysReach_0.at 40 rfl) ?_
        refine sw_istore (lo' := [some (vr (49)), some (vi (((kd : Nat) : Int))), some (vi (((y : Nat) : Int))), some (vi (((x : Nat) : Int))), some (vi (0))]) (dX9_laysReach_0.at 41 rfl) (by decide) rfl ?_
        refine sw_aload_n (dX9_laysReach_0.at 42 rfl) rfl rfl ?_
        refine sw_getR (dX9_laysReach_0.at 43 rfl) fp_X9_71 (S_lt 49 (by decide)) (S_49 nw nx g) rfl rfl ?_
        refine sw_iload_n (dX9_laysReach_0.at 44 rfl) rfl rfl ?_
        refine sw_dup2 (dX9_laysReach_0.at 45 rfl) (fun _ h => by cases h) (fun _ h => by cases h) ?_
        refine sw_laldN y (w := ((a : Nat) : Int)) (dX9_laysReach_0.at 46 rfl) (S_lt 68 (by decide)) (S_68 nw nx g) (by decide) (GV_lt hV hv.1) hFa ?_
        replace hv := hv.2
        refine sw_iload_n (dX9_laysReach_0.at 47 rfl) rfl rfl ?_
        refine sw_iload_n (dX9_laysReach_0.at 48 rfl) rfl rfl ?_
        refine sw_icmpN_eq x y (tgt := 92) (dX9_laysReach_0.at 49 rfl) (by decide) hv.1 hv.2.1 (fun q => ?_) (fun q => ?_)
        · replace hv := hv.2.2.1 q
          refine sw_lconst (z := 0) (dX9_laysReach_1.at 6 rfl) (by decide) ?_
          refine sw_lorN a 0 (dX9_laysReach_1.at 7 rfl) ?_
          refine sw_lastN y (dX9_laysReach_1.at 8 rfl) (S_lt 68 (by decide)) (S_68 nw nx g) (by decide) hv.1 ?_
          refine SW.cg (M' := (S nw nx g, 78 + gn, (wr c 68 (u1 F y ((a ||| 0 : Nat) : Int))))) (congrArg (fun m => (S nw nx g, 78 + gn, m)) (wr_up c 68 F y ((a ||| 0 : Nat) : Int))) ?_
          replace hv := hv.2
          refine sw_iinc (lo' := [some (vr (49)), some (vi (((kd : Nat) : Int))), some (vi (((y : Nat) : Int))), some (vi (((x + 1 : Nat) : Int))), some (vi (0))]) (dX9_laysReach_1.at 9 rfl) rfl (by decide) rfl ?_
          refine sw_goto (tgt := 25) (dX9_laysReach_1.at 10 rfl) (by decide) ?_
          exact sw_mask (bs := [true, true, true, true, false]) hv
        · replace hv := hv.2.2.2 q
          refine sw_iload (dX9_laysReach_1.at 0 rfl) rfl ?_
          refine sw_if_eq (tgt := 92) (dX9_laysReach_1.at 1 rfl) (by decide) (by decide) (fun q => ?_) (fun q => ?_)
          · clear q
            refine sw_lconst (z := 0) (dX9_laysReach_1.at 6 rfl) (by decide) ?_
            refine sw_lorN a 0 (dX9_laysReach_1.at 7 rfl) ?_
            refine sw_lastN y (dX9_laysReach_1.at 8 rfl) (S_lt 68 (by decide)) (S_68 nw nx g) (by decide) hv.1 ?_
            refine SW.cg (M' := (S nw nx g, 78 + gn, (wr c 68 (u1 F y ((a ||| 0 : Nat) : Int))))) (congrArg (fun m => (S nw nx g, 78 + gn, m)) (wr_up c 68 F y ((a ||| 0 : Nat) : Int))) ?_
            replace hv := hv.2
            refine sw_iinc (lo' := [some (vr (49)), some (vi (((kd : Nat) : Int))), some (vi (((y : Nat) : Int))), some (vi (((x + 1 : Nat) : Int))), some (vi (0))]) (dX9_laysReach_1.at 9 rfl) rfl (by decide) rfl ?_
            refine sw_goto (tgt := 25) (dX9_laysReach_1.at 10 rfl) (by decide) ?_
            exact sw_mask (bs := [true, true, true, true, false]) hv
          · exact absurd q (by decide)
      · replace hv := hv.2.2 q
        refine sw_aload_n (dX9_laysReach_0.at 32 rfl) rfl rfl ?_
        refine sw_iload_n (dX9_laysReach_0.at 33 rfl) rfl rfl ?_
        refine sw_iload_n (dX9_laysReach_0.at 34 rfl) rfl rfl ?_
        refine sw_iconst (dX9_laysReach_0.at 35 rfl) ?_
        refine sw_callV (B' := B0) (As := [vi (((y : Nat) : Int)), vi (((x : Nat) : Int)), vi (1)]) (mc := 0) (ms := 0) (dX9_laysReach_0.at 36 rfl) lk_X9_339 (S_lt 49 (by decide)) (S_49 nw nx g) rfl rfl (Nat.le_of_ble_eq_true rfl) rfl (Nat.le_refl _) (Nat.le_refl _) ?_
        refine c_X9_isEdge (T := T) (y := y) (x := x) (sd := 1) (j := j + 0) (ML_SC hM (SC_wr SC_rf (a := 68) (f := F) (by decide))) hV hC (PD_SC hD (SC_wr SC_rf (a := 68) (f := F) (by decide))) hT hv.1 hv.2.1 hv.2.2.1 ?_
        replace hv := hv.2.2.2
        refine sw_if_eq (tgt := 66) (dX9_laysReach_0.at 37 rfl) (by decide) (bz_rng _) (fun q => ?_) (fun q => ?_)
        · replace hv := hv.1 (bz_0 q)
          refine sw_iconst (dX9_laysReach_0.at 40 rfl) ?_
          refine sw_istore (lo' := [some (vr (49)), some (vi (((kd : Nat) : Int))), some (vi (((y : Nat) : Int))), some (vi (((x : Nat) : Int))), some (vi (0))]) (dX9_laysReach_0.at 41 rfl) (by decide) rfl ?_
          refine sw_aload_n (dX9_laysReach_0.at 42 rfl) rfl rfl ?_
          refine sw_getR (dX9_laysReach_0.at 43 rfl) fp_X9_71 (S_lt 49 (by decide)) (S_49 nw nx g) rfl rfl ?_
          refine sw_iload_n (dX9_laysReach_0.at 44 rfl) rfl rfl ?_
          refine sw_dup2 (dX9_laysReach_0.at 45 rfl) (fun _ h => by cases h) (fun _ h => by cases h) ?_
          refine sw_laldN y (w := ((a : Nat) : Int)) (dX9_laysReach_0.at 46 rfl) (S_lt 68 (by decide)) (S_68 nw nx g) (by decide) (GV_lt hV hv.1) hFa ?_
          replace hv := hv.2
          refine sw_iload_n (dX9_laysReach_0.at 47 rfl) rfl rfl ?_
          refine sw_iload_n (dX9_laysReach_0.at 48 rfl) rfl rfl ?_
          refine sw_icmpN_eq x y (tgt := 92) (dX9_laysReach_0.at 49 rfl) (by decide) hv.1 hv.2.1 (fun q => ?_) (fun q => ?_)
          · replace hv := hv.2.2.1 q
            refine sw_lconst (z := 0) (dX9_laysReach_1.at 6 rfl) (by decide) ?_
            refine sw_lorN a 0 (dX9_laysReach_1.at 7 rfl) ?_
            refine sw_lastN y (dX9_laysReach_1.at 8 rfl) (S_lt 68 (by decide)) (S_68 nw nx g) (by decide) hv.1 ?_
            refine SW.cg (M' := (S nw nx g, 78 + gn, (wr c 68 (u1 F y ((a ||| 0 : Nat) : Int))))) (congrArg (fun m => (S nw nx g, 78 + gn, m)) (wr_up c 68 F y ((a ||| 0 : Nat) : Int))) ?_
            replace hv := hv.2
            refine sw_iinc (lo' := [some (vr (49)), some (vi (((kd : Nat) : Int))), some (vi (((y : Nat) : Int))), some (vi (((x + 1 : Nat) : Int))), some (vi (0))]) (dX9_laysReach_1.at 9 rfl) rfl (by decide) rfl ?_
            refine sw_goto (tgt := 25) (dX9_laysReach_1.at 10 rfl) (by decide) ?_
            exact sw_mask (bs := [true, true, true, true, false]) hv
          · replace hv := hv.2.2.2 q
            refine sw_iload (dX9_laysReach_1.at 0 rfl) rfl ?_
            refine sw_if_eq (tgt := 92) (dX9_laysReach_1.at 1 rfl) (by decide) (by decide) (fun q => ?_) (fun q => ?_)
            · clear q
              refine sw_lconst (z := 0) (dX9_laysReach_1.at 6 rfl) (by decide) ?_
              refine sw_lorN a 0 (dX9_laysReach_1.at 7 rfl) ?_
              refine sw_lastN y (dX9_laysReach_1.at 8 rfl) (S_lt 68 (by decide)) (S_68 nw nx g) (by decide) hv.1 ?_
              refine SW.cg (M' := (S nw nx g, 78 + gn, (wr c 68 (u1 F y ((a ||| 0 : Nat) : Int))))) (congrArg (fun m => (S nw nx g, 78 + gn, m)) (wr_up c 68 F y ((a ||| 0 : Nat) : Int))) ?_
              replace hv := hv.2
              refine sw_iinc (lo' := [some (vr (49)), some (vi (((kd : Nat) : Int))), some (vi (((y : Nat) : Int))), some (vi (((x + 1 : Nat) : Int))), some (vi (0))]) (dX9_laysReach_1.at 9 rfl) rfl (by decide) rfl ?_
              refine sw_goto (tgt := 25) (dX9_laysReach_1.at 10 rfl) (by decide) ?_
              exact sw_mask (bs := [true, true, true, true, false]) hv
            · exact absurd q (by decide)
        · replace hv := hv.2 (bz_n0 q)
          refine sw_iconst (dX9_laysReach_0.at 38 rfl) ?_
          refine sw_goto (tgt := 67) (dX9_laysReach_0.at 39 rfl) (by decide) ?_
          refine sw_istore (lo' := [some (vr (49)), some (vi (((kd : Nat) : Int))), some (vi (((y : Nat) : Int))), some (vi (((x : Nat) : Int))), some (vi (1))]) (dX9_laysReach_0.at 41 rfl) (by decide) rfl ?_
          refine sw_aload_n (dX9_laysReach_0.at 42 rfl) rfl rfl ?_
          refine sw_getR (dX9_laysReach_0.at 43 rfl) fp_X9_71 (S_lt 49 (by decide)) (S_49 nw nx g) rfl rfl ?_
          refine sw_iload_n (dX9_laysReach_0.at 44 rfl) rfl rfl ?_
          refine sw_dup2 (dX9_laysReach_0.at 45 rfl) (fun _ h => by cases h) (fun _ h => by cases h) ?_
          refine sw_laldN y (w := ((a : Nat) : Int)) (dX9_laysReach_0.at 46 rfl) (S_lt 68 (by decide)) (S_68 nw nx g) (by decide) (GV_lt hV hv.1) hFa ?_
          replace hv := hv.2
          refine sw_iload_n (dX9_laysReach_0.at 47 rfl) rfl rfl ?_
          refine sw_iload_n (dX9_laysReach_0.at 48 rfl) rfl rfl ?_
          refine sw_icmpN_eq x y (tgt := 92) (dX9_laysReach_0.at 49 rfl) (by decide) hv.1 hv.2.1 (fun q => ?_) (fun q => ?_)
          · replace hv := hv.2.2.1 q
            refine sw_lconst (z := 0) (dX9_laysReach_1.at 6 rfl) (by decide) ?_
            refine sw_lorN a 0 (dX9_laysReach_1.at 7 rfl) ?_
            refine sw_lastN y (dX9_laysReach_1.at 8 rfl) (S_lt 68 (by decide)) (S_68 nw nx g) (by decide) hv.1 ?_
            refine SW.cg (M' := (S nw nx g, 78 + gn, (wr c 68 (u1 F y ((a ||| 0 : Nat) : Int))))) (congrArg (fun m => (S nw nx g, 78 + gn, m)) (wr_up c 68 F y ((a ||| 0 : Nat) : Int))) ?_
            replace hv := hv.2
            refine sw_iinc (lo' := [some (vr (49)), some (vi (((kd : Nat) : Int))), some (vi (((y : Nat) : Int))), some (vi (((x + 1 : Nat) : Int))), some (vi (1))]) (dX9_laysReach_1.at 9 rfl) rfl (by decide) rfl ?_
            refine sw_goto (tgt := 25) (dX9_laysReach_1.at 10 rfl) (by decide) ?_
            exact sw_mask (bs := [true, true, true, true, false]) hv
          · replace hv := hv.2.2.2 q
            refine sw_iload (dX9_laysReach_1.at 0 rfl) rfl ?_
            refine sw_if_eq (tgt := 92) (dX9_laysReach_1.at 1 rfl) (by decide) (by decide) (fun q => ?_) (fun q => ?_)
            · exact absurd q (by decide)
            · clear q
              refine sw_lconst (z := 1) (dX9_laysReach_1.at 2 rfl) (by decide) ?_
              refine sw_iload_n (dX9_laysReach_1.at 3 rfl) rfl rfl ?_
              refine sw_lshlN 1 x (dX9_laysReach_1.at 4 rfl) hv.1 ?_
              replace hv := hv.2
              refine sw_goto (tgt := 93) (dX9_laysReach_1.at 5 rfl) (by decide) ?_
              refine sw_lorN a (1 * 2 ^ x) (dX9_laysReach_1.at 7 rfl) ?_
              refine sw_lastN y (dX9_laysReach_1.at 8 rfl) (S_lt 68 (by decide)) (S_68 nw nx g) (by decide) hv.1 ?_
              refine SW.cg (M' := (S nw nx g, 78 + gn, (wr c 68 (u1 F y ((a ||| (1 * 2 ^ x) : Nat) : Int))))) (congrArg (fun m => (S nw nx g, 78 + gn, m)) (wr_up c 68 F y ((a ||| (1 * 2 ^ x) : Nat) : Int))) ?_
              replace hv := hv.2
              refine sw_iinc (lo' := [some (vr (49)), some (vi (((kd : Nat) : Int))), some (vi (((y : Nat) : Int))), some (vi (((x + 1 : Nat) : Int))), some (vi (1))]) (dX9_laysReach_1.at 9 rfl) rfl (by decide) rfl ?_
              refine sw_goto (tgt := 25) (dX9_laysReach_1.at 10 rfl) (by decide) ?_
              exact sw_mask (bs := [true, true, true, true, false]) hv
    · replace hv := hv.2.2 q
      refine sw_aload_n (dX9_laysReach_0.at 24 rfl) rfl rfl ?_
      refine sw_iload_n (dX9_laysReach_0.at 25 rfl) rfl rfl ?_
      refine sw_iload_n (dX9_laysReach_0.at 26 rfl) rfl rfl ?_
      refine sw_iconst (dX9_laysReach_0.at 27 rfl) ?_
      refine sw_callV (B' := B0) (As := [vi (((y : Nat) : Int)), vi (((x : Nat) : Int)), vi (0)]) (mc := 0) (ms := 0) (dX9_laysReach_0.at 28 rfl) lk_X9_339 (S_lt 49 (by decide)) (S_49 nw nx g) rfl rfl (Nat.le_of_ble_eq_true rfl) rfl (Nat.le_refl _) (Nat.le_refl _) ?_
      refine c_X9_isEdge (T := T) (y := y) (x := x) (sd := 0) (j := j + 0) (ML_SC hM (SC_wr SC_rf (a := 68) (f := F) (by decide))) hV hC (PD_SC hD (SC_wr SC_rf (a := 68) (f := F) (by decide))) hT hv.1 hv.2.1 hv.2.2.1 ?_
      replace hv := hv.2.2.2
      refine sw_if_ne (tgt := 62) (dX9_laysReach_0.at 29 rfl) (by decide) (bz_rng _) (fun q => ?_) (fun q => ?_)
      · replace hv := hv.1 (bz_1 q)
        refine sw_iconst (dX9_laysReach_0.at 38 rfl) ?_
        refine sw_goto (tgt := 67) (dX9_laysReach_0.at 39 rfl) (by decide) ?_
        refine sw_istore (lo' := [some (vr (49)), some (vi (((kd : Nat) : Int))), some (vi (((y : Nat) : Int))), some (vi (((x : Nat) : Int))), some (vi (1))]) (dX9_laysReach_0.at 41 rfl) (by decide) rfl ?_
        refine sw_aload_n (dX9_laysReach_0.at 42 rfl) rfl rfl ?_
        refine sw_getR (dX9_laysReach_0.at 43 rfl) fp_X9_71 (S_lt 49 (by decide)) (S_49 nw nx g) rfl rfl ?_
        refine sw_iload_n (dX9_laysReach_0.at 44 rfl) rfl rfl ?_
        refine sw_dup2 (dX9_laysReach_0.at 45 rfl) (fun _ h => by cases h) (fun _ h => by cases h) ?_
        refine sw_laldN y (w := ((a : Nat) : Int)) (dX9_laysReach_0.at 46 rfl) (S_lt 68 (by decide)) (S_68 nw nx g) (by decide) (GV_lt hV hv.1) hFa ?_
        replace hv := hv.2
        refine sw_iload_n (dX9_laysReach_0.at 47 rfl) rfl rfl ?_
        refine sw_iload_n (dX9_laysReach_0.at 48 rfl) rfl rfl ?_
        refine sw_icmpN_eq x y (tgt := 92) (dX9_laysReach_0.at 49 rfl) (by decide) hv.1 hv.2.1 (fun q => ?_) (fun q => ?_)
        · replace hv := hv.2.2.1 q
          refine sw_lconst (z := 0) (dX9_laysReach_1.at 6 rfl) (by decide) ?_
          refine sw_lorN a 0 (dX9_laysReach_1.at 7 rfl) ?_
          refine sw_lastN y (dX9_laysReach_1.at 8 rfl) (S_lt 68 (by decide)) (S_68 nw nx g) (by decide) hv.1 ?_
          refine SW.cg (M' := (S nw nx g, 78 + gn, (wr c 68 (u1 F y ((a ||| 0 : Nat) : Int))))) (congrArg (fun m => (S nw nx g, 78 + gn, m)) (wr_up c 68 F y ((a ||| 0 : Nat) : Int))) ?_
          replace hv := hv.2
          refine sw_iinc (lo' := [some (vr (49)), some (vi (((kd : Nat) : Int))), some (vi (((y : Nat) : Int))), some (vi (((x + 1 : Nat) : Int))), some (vi (1))]) (dX9_laysReach_1.at 9 rfl) rfl (by decide) rfl ?_
          refine sw_goto (tgt := 25) (dX9_laysReach_1.at 10 rfl) (by decide) ?_
          exact sw_mask (bs := [true, true, true, true, false]) hv
        · replace hv := hv.2.2.2 q
          refine sw_iload (dX9_laysReach_1.at 0 rfl) rfl ?_
          refine sw_if_eq (tgt := 92) (dX9_laysReach_1.at 1 rfl) (by decide) (by decide) (fun q => ?_) (fun q => ?_)
          · exact absurd q (by decide)
          · clear q
            refine sw_lconst (z := 1) (dX9_laysReach_1.at 2 rfl) (by decide) ?_
            refine sw_iload_n (dX9_laysReach_1.at 3 rfl) rfl rfl ?_
            refine sw_lshlN 1 x (dX9_laysReach_1.at 4 rfl) hv.1 ?_
            replace hv := hv.2
            refine sw_goto (tgt := 93) (dX9_laysReach_1.at 5 rfl) (by decide) ?_
            refine sw_lorN a (1 * 2 ^ x) (dX9_laysReach_1.at 7 rfl) ?_
            refine sw_lastN y (dX9_laysReach_1.at 8 rfl) (S_lt 68 (by decide)) (S_68 nw nx g) (by decide) hv.1 ?_
            refine SW.cg (M' := (S nw nx g, 78 + gn, (wr c 68 (u1 F y ((a ||| (1 * 2 ^ x) : Nat) : Int))))) (congrArg (fun m => (S nw nx g, 78 + gn, m)) (wr_up c 68 F y ((a ||| (1 * 2 ^ x) : Nat) : Int))) ?_
            replace hv := hv.2
            refine sw_iinc (lo' := [some (vr (49)), some (vi (((kd : Nat) : Int))), some (vi (((y : Nat) : Int))), some (vi (((x + 1 : Nat) : Int))), some (vi (1))]) (dX9_laysReach_1.at 9 rfl) rfl (by decide) rfl ?_
            refine sw_goto (tgt := 25) (dX9_laysReach_1.at 10 rfl) (by decide) ?_
            exact sw_mask (bs := [true, true, true, true, false]) hv
      · replace hv := hv.2 (bz_n1 q)
        refine sw_iload_n (dX9_laysReach_0.at 30 rfl) rfl rfl ?_
        refine sw_ifN_eq kd (tgt := 66) (dX9_laysReach_0.at 31 rfl) (by decide) hv.1 (fun q => ?_) (fun q => ?_)
        · replace hv := hv.2.1 q
          refine sw_iconst (dX9_laysReach_0.at 40 rfl) ?_
          refine sw_istore (lo' := [some (vr (49)), some (vi (((kd : Nat) : Int))), some (vi (((y : Nat) : Int))), some (vi (((x : Nat) : Int))), some (vi (0))]) (dX9_laysReach_0.at 41 rfl) (by decide) rfl ?_
          refine sw_aload_n (dX9_laysReach_0.at 42 rfl) rfl rfl ?_
          refine sw_getR (dX9_laysReach_0.at 43 rfl) fp_X9_71 (S_lt 49 (by decide)) (S_49 nw nx g) rfl rfl ?_
          refine sw_iload_n (dX9_laysReach_0.at 44 rfl) rfl rfl ?_
          refine sw_dup2 (dX9_laysReach_0.at 45 rfl) (fun _ h => by cases h) (fun _ h => by cases h) ?_
          refine sw_laldN y (w := ((a : Nat) : Int)) (dX9_laysReach_0.at 46 rfl) (S_lt 68 (by decide)) (S_68 nw nx g) (by decide) (GV_lt hV hv.1) hFa ?_
          replace hv := hv.2
          refine sw_iload_n (dX9_laysReach_0.at 47 rfl) rfl rfl ?_
          refine sw_iload_n (dX9_laysReach_0.at 48 rfl) rfl rfl ?_
          refine sw_icmpN_eq x y (tgt := 92) (dX9_laysReach_0.at 49 rfl) (by decide) hv.1 hv.2.1 (fun q => ?_) (fun q => ?_)
          · replace hv := hv.2.2.1 q
            refine sw_lconst (z := 0) (dX9_laysReach_1.at 6 rfl) (by decide) ?_
            refine sw_lorN a 0 (dX9_laysReach_1.at 7 rfl) ?_
            refine sw_lastN y (dX9_laysReach_1.at 8 rfl) (S_lt 68 (by decide)) (S_68 nw nx g) (by decide) hv.1 ?_
            refine SW.cg (M' := (S nw nx g, 78 + gn, (wr c 68 (u1 F y ((a ||| 0 : Nat) : Int))))) (congrArg (fun m => (S nw nx g, 78 + gn, m)) (wr_up c 68 F y ((a ||| 0 : Nat) : Int))) ?_
            replace hv := hv.2
            refine sw_iinc (lo' := [some (vr (49)), some (vi (((kd : Nat) : Int))), some (vi (((y : Nat) : Int))), some (vi (((x + 1 : Nat) : Int))), some (vi (0))]) (dX9_laysReach_1.at 9 rfl) rfl (by decide) rfl ?_
            refine sw_goto (tgt := 25) (dX9_laysReach_1.at 10 rfl) (by decide) ?_
            exact sw_mask (bs := [true, true, true, true, false]) hv
          · replace hv := hv.2.2.2 q
            refine sw_iload (dX9_laysReach_1.at 0 rfl) rfl ?_
            refine sw_if_eq (tgt := 92) (dX9_laysReach_1.at 1 rfl) (by decide) (by decide) (fun q => ?_) (fun q => ?_)
            · clear q
              refine sw_lconst (z := 0) (dX9_laysReach_1.at 6 rfl) (by decide) ?_
              refine sw_lorN a 0 (dX9_laysReach_1.at 7 rfl) ?_
              refine sw_lastN y (dX9_laysReach_1.at 8 rfl) (S_lt 68 (by decide)) (S_68 nw nx g) (by decide) hv.1 ?_
              refine SW.cg (M' := (S nw nx g, 78 + gn, (wr c 68 (u1 F y ((a ||| 0 : Nat) : Int))))) (congrArg (fun m => (S nw nx g, 78 + gn, m)) (wr_up c 68 F y ((a ||| 0 : Nat) : Int))) ?_
              replace hv := hv.2
              refine sw_iinc (lo' := [some (vr (49)), some (vi (((kd : Nat) : Int))), some (vi (((y : Nat) : Int))), some (vi (((x + 1 : Nat) : Int))), some (vi (0))]) (dX9_laysReach_1.at 9 rfl) rfl (by decide) rfl ?_
              refine sw_goto (tgt := 25) (dX9_laysReach_1.at 10 rfl) (by decide) ?_
              exact sw_mask (bs := [true, true, true, true, false]) hv
            · exact absurd q (by decide)
        · replace hv := hv.2.2 q
          refine sw_aload_n (dX9_laysReach_0.at 32 rfl) rfl rfl ?_
          refine sw_iload_n (dX9_laysReach_0.at 33 rfl) rfl rfl ?_
          refine sw_iload_n (dX9_laysReach_0.at 34 rfl) rfl rfl ?_
          refine sw_iconst (dX9_laysReach_0.at 35 rfl) ?_
          refine sw_callV (B' := B0) (As := [vi (((y : Nat) : Int)), vi (((x : Nat) : Int)), vi (1)]) (mc := 0) (ms := 0) (dX9_laysReach_0.at 36 rfl) lk_X9_339 (S_lt 49 (by decide)) (S_49 nw nx g) rfl rfl (Nat.le_of_ble_eq_true rfl) rfl (Nat.le_refl _) (Nat.le_refl _) ?_
          refine c_X9_isEdge (T := T) (y := y) (x := x) (sd := 1) (j := j + 0) (ML_SC hM (SC_wr SC_rf (a := 68) (f := F) (by decide))) hV hC (PD_SC hD (SC_wr SC_rf (a := 68) (f := F) (by decide))) hT hv.1 hv.2.1 hv.2.2.1 ?_
          replace hv := hv.2.2.2
          refine sw_if_eq (tgt := 66) (dX9_laysReach_0.at 37 rfl) (by decide) (bz_rng _) (fun q => ?_) (fun q => ?_)
          · replace hv := hv.1 (bz_0 q)
            refine sw_iconst (dX9_laysReach_0.at 40 rfl) ?_
            refine sw_istore (lo' := [some (vr (49)), some (vi (((kd : Nat) : Int))), some (vi (((y : Nat) : Int))), some (vi (((x : Nat) : Int))), some (vi (0))]) (dX9_laysReach_0.at 41 rfl) (by decide) rfl ?_
            refine sw_aload_n (dX9_laysReach_0.at 42 rfl) rfl rfl ?_
            refine sw_getR (dX9_laysReach_0.at 43 rfl) fp_X9_71 (S_lt 49 (by decide)) (S_49 nw nx g) rfl rfl ?_
            refine sw_iload_n (dX9_laysReach_0.at 44 rfl) rfl rfl ?_
            refine sw_dup2 (dX9_laysReach_0.at 45 rfl) (fun _ h => by cases h) (fun _ h => by cases h) ?_
            refine sw_laldN y (w := ((a : Nat) : Int)) (dX9_laysReach_0.at 46 rfl) (S_lt 68 (by decide)) (S_68 nw nx g) (by decide) (GV_lt hV hv.1) hFa ?_
            replace hv := hv.2
            refine sw_iload_n (dX9_laysReach_0.at 47 rfl) rfl rfl ?_
            refine sw_iload_n (dX9_laysReach_0.at 48 rfl) rfl rfl ?_
            refine sw_icmpN_eq x y (tgt := 92) (dX9_laysReach_0.at 49 rfl) (by decide) hv.1 hv.2.1 (fun q => ?_) (fun q => ?_)
            · replace hv := hv.2.2.1 q
              refine sw_lconst (z := 0) (dX9_laysReach_1.at 6 rfl) (by decide) ?_
              refine sw_lorN a 0 (dX9_laysReach_1.at 7 rfl) ?_
              refine sw_lastN y (dX9_laysReach_1.at 8 rfl) (S_lt 68 (by decide)) (S_68 nw nx g) (by decide) hv.1 ?_
              refine SW.cg (M' := (S nw nx g, 78 + gn, (wr c 68 (u1 F y ((a ||| 0 : Nat) : Int))))) (congrArg (fun m => (S nw nx g, 78 + gn, m)) (wr_up c 68 F y ((a ||| 0 : Nat) : Int))) ?_
              replace hv := hv.2
              refine sw_iinc (lo' := [some (vr (49)), some (vi (((kd : Nat) : Int))), some (vi (((y : Nat) : Int))), some (vi (((x + 1 : Nat) : Int))), some (vi (0))]) (dX9_laysReach_1.at 9 rfl) rfl (by decide) rfl ?_
              refine sw_goto (tgt := 25) (dX9_laysReach_1.at 10 rfl) (by decide) ?_
              exact sw_mask (bs := [true, true, true, true, false]) hv
            · replace hv := hv.2.2.2 q
              refine sw_iload (dX9_laysReach_1.at 0 rfl) rfl ?_
              refine sw_if_eq (tgt := 92) (dX9_laysReach_1.at 1 rfl) (by decide) (by decide) (fun q => ?_) (fun q => ?_)
              · clear q
                refine sw_lconst (z := 0) (dX9_laysReach_1.at 6 rfl) (by decide) ?_
                refine sw_lorN a 0 (dX9_laysReach_1.at 7 rfl) ?_
                refine sw_lastN y (dX9_laysReach_1.at 8 rfl) (S_lt 68 (by decide)) (S_68 nw nx g) (by decide) hv.1 ?_
                refine SW.cg (M' := (S nw nx g, 78 + gn, (wr c 68 (u1 F y ((a ||| 0 : Nat) : Int))))) (congrArg (fun m => (S nw nx g, 78 + gn, m)) (wr_up c 68 F y ((a ||| 0 : Nat) : Int))) ?_
                replace hv := hv.2
                refine sw_iinc (lo' := [some (vr (49)), some (vi (((kd : Nat) : Int))), some (vi (((y : Nat) : Int))), some (vi (((x + 1 : Nat) : Int))), some (vi (0))]) (dX9_laysReach_1.at 9 rfl) rfl (by decide) rfl ?_
                refine sw_goto (tgt := 25) (dX9_laysReach_1.at 10 rfl) (by decide) ?_
                exact sw_mask (bs := [true, true, true, true, false]) hv
              · exact absurd q (by decide)
          · replace hv := hv.2 (bz_n0 q)
            refine sw_iconst (dX9_laysReach_0.at 38 rfl) ?_
            refine sw_goto (tgt := 67) (dX9_laysReach_0.at 39 rfl) (by decide) ?_
            refine sw_istore (lo' := [some (vr (49)), some (vi (((kd : Nat) : Int))), some (vi (((y : Nat) : Int))), some (vi (((x : Nat) : Int))), some (vi (1))]) (dX9_laysReach_0.at 41 rfl) (by decide) rfl ?_
            refine sw_aload_n (dX9_laysReach_0.at 42 rfl) rfl rfl ?_
            refine sw_getR (dX9_laysReach_0.at 43 rfl) fp_X9_71 (S_lt 49 (by decide)) (S_49 nw nx g) rfl rfl ?_
            refine sw_iload_n (dX9_laysReach_0.at 44 rfl) rfl rfl ?_
            refine sw_dup2 (dX9_laysReach_0.at 45 rfl) (fun _ h => by cases h) (fun _ h => by cases h) ?_
            refine sw_laldN y (w := ((a : Nat) : Int)) (dX9_laysReach_0.at 46 rfl) (S_lt 68 (by decide)) (S_68 nw nx g) (by decide) (GV_lt hV hv.1) hFa ?_
            replace hv := hv.2
            refine sw_iload_n (dX9_laysReach_0.at 47 rfl) rfl rfl ?_
            refine sw_iload_n (dX9_laysReach_0.at 48 rfl) rfl rfl ?_
            refine sw_icmpN_eq x y (tgt := 92) (dX9_laysReach_0.at 49 rfl) (by decide) hv.1 hv.2.1 (fun q => ?_) (fun q => ?_)
            · replace hv := hv.2.2.1 q
              refine sw_lconst (z := 0) (dX9_laysReach_1.at 6 rfl) (by decide) ?_
              refine sw_lorN a 0 (dX9_laysReach_1.at 7 rfl) ?_
              refine sw_lastN y (dX9_laysReach_1.at 8 rfl) (S_lt 68 (by decide)) (S_68 nw nx g) (by decide) hv.1 ?_
              refine SW.cg (M' := (S nw nx g, 78 + gn, (wr c 68 (u1 F y ((a ||| 0 : Nat) : Int))))) (congrArg (fun m => (S nw nx g, 78 + gn, m)) (wr_up c 68 F y ((a ||| 0 : Nat) : Int))) ?_
              replace hv := hv.2
              refine sw_iinc (lo' := [some (vr (49)), some (vi (((kd : Nat) : Int))), some (vi (((y : Nat) : Int))), some (vi (((x + 1 : Nat) : Int))), some (vi (1))]) (dX9_laysReach_1.at 9 rfl) rfl (by decide) rfl ?_
              refine sw_goto (tgt := 25) (dX9_laysReach_1.at 10 rfl) (by decide) ?_
              exact sw_mask (bs := [true, true, true, true, false]) hv
            · replace hv := hv.2.2.2 q
              refine sw_iload (dX9_laysReach_1.at 0 rfl) rfl ?_
              refine sw_if_eq (tgt := 92) (dX9_laysReach_1.at 1 rfl) (by decide) (by decide) (fun q => ?_) (fun q => ?_)
              · exact absurd q (by decide)
              · clear q
                refine sw_lconst (z := 1) (dX9_laysReach_1.at 2 rfl) (by decide) ?_
                refine sw_iload_n (dX9_laysReach_1.at 3 rfl) rfl rfl ?_
                refine sw_lshlN 1 x (dX9_laysReach_1.at 4 rfl) hv.1 ?_
                replace hv := hv.2
                refine sw_goto (tgt := 93) (dX9_laysReach_1.at 5 rfl) (by decide) ?_
                refine sw_lorN a (1 * 2 ^ x) (dX9_laysReach_1.at 7 rfl) ?_
                refine sw_lastN y (dX9_laysReach_1.at 8 rfl) (S_lt 68 (by decide)) (S_68 nw nx g) (by decide) hv.1 ?_
                refine SW.cg (M' := (S nw nx g, 78 + gn, (wr c 68 (u1 F y ((a ||| (1 * 2 ^ x) : Nat) : Int))))) (congrArg (fun m => (S nw nx g, 78 + gn, m)) (wr_up c 68 F y ((a ||| (1 * 2 ^ x) : Nat) : Int))) ?_
                replace hv := hv.2
                refine sw_iinc (lo' := [some (vr (49)), some (vi (((kd : Nat) : Int))), some (vi (((y : Nat) : Int))), some (vi (((x + 1 : Nat) : Int))), some (vi (1))]) (dX9_laysReach_1.at 9 rfl) rfl (by decide) rfl ?_
                refine sw_goto (tgt := 25) (dX9_laysReach_1.at 10 rfl) (by decide) ?_
                exact sw_mask (bs := [true, true, true, true, false]) hv

set_option maxHeartbeats 2000000 in
set_option maxRecDepth 20000 in
theorem g_X9_laysReach_6 {G : GG} {j nw nx gn : Nat} {g : Nat → Sh} {c : Nat → Nat → Int} {post : Option AV → AM → Prop} {kd : Nat} {P : GD} {F : Nat → Int} {y : Nat} (hM : ML c P) (hV : GV P)  (hv : (y < 2147483648) ∧ (gN P < 2147483648) ∧ (((gN P ≤ y) → SW G (j + 4) mX9_laysReach 109 [some (vr (49)), none, some (vi (0)), none, none] [] (S nw nx g, 78 + gn, (wr c 68 F)) B0 post) ∧ ((¬ (gN P ≤ y)) → (y < 64) ∧ ((y < 60) ∧ (SW G (j + 4) mX9_laysReach 25 [some (vr (49)), some (vi (((kd : Nat) : Int))), some (vi (((y : Nat) : Int))), some (vi (0)), none] [] (S nw nx g, 78 + gn, (wr c 68 (u1 F y ((1 * 2 ^ y : Nat) : Int)))) B0 post))))) :
    SW G (j + 4) mX9_laysReach 6 [some (vr (49)), some (vi (((kd : Nat) : Int))), some (vi (((y : Nat) : Int))), none, none] [] (S nw nx g, 78 + gn, (wr c 68 F)) B0 post := by
  refine sw_iload_n (dX9_laysReach_0.at 4 rfl) rfl rfl ?_
  refine sw_aload_n (dX9_laysReach_0.at 5 rfl) rfl rfl ?_
  refine sw_getIE (w := ((gN P : Nat) : Int)) (dX9_laysReach_0.at 6 rfl) fp_X9_196 (S_lt 49 (by decide)) (S_49 nw nx g) rfl ((wr_off (c := c) (a := 68) (f := F) (i := 49) (k := 22) (by decide)).trans hM.1.2.1) ?_
  refine sw_icmpN_ge y (gN P) (tgt := 107) (dX9_laysReach_0.at 7 rfl) (by decide) hv.1 hv.2.1 (fun q => ?_) (fun q => ?_)
  · replace hv := hv.2.2.1 q
    refine sw_iconst (dX9_laysReach_1.at 13 rfl) ?_
    refine sw_istore_n (lo' := [some (vr (49)), some (vi (((kd : Nat) : Int))), some (vi (0)), none, none]) (dX9_laysReach_1.at 14 rfl) rfl (by decide) rfl ?_
    exact sw_mask (bs := [true, false, true, false, false]) hv
  · replace hv := hv.2.2.2 q
    refine sw_aload_n (dX9_laysReach_0.at 8 rfl) rfl rfl ?_
    refine sw_getR (dX9_laysReach_0.at 9 rfl) fp_X9_71 (S_lt 49 (by decide)) (S_49 nw nx g) rfl rfl ?_
    refine sw_iload_n (dX9_laysReach_0.at 10 rfl) rfl rfl ?_
    refine sw_lconst (z := 1) (dX9_laysReach_0.at 11 rfl) (by decide) ?_
    refine sw_iload_n (dX9_laysReach_0.at 12 rfl) rfl rfl ?_
    refine sw_lshlN 1 y (dX9_laysReach_0.at 13 rfl) hv.1 ?_
    replace hv := hv.2
    refine sw_lastN y (dX9_laysReach_0.at 14 rfl) (S_lt 68 (by decide)) (S_68 nw nx g) (by decide) hv.1 ?_
    refine SW.cg (M' := (S nw nx g, 78 + gn, (wr c 68 (u1 F y ((1 * 2 ^ y : Nat) : Int))))) (congrArg (fun m => (S nw nx g, 78 + gn, m)) (wr_up c 68 F y ((1 * 2 ^ y : Nat) : Int))) ?_
    replace hv := hv.2
    refine sw_iconst (dX9_laysReach_0.at 15 rfl) ?_
    refine sw_istore_n (lo' := [some (vr (49)), some (vi (((kd : Nat) : Int))), some (vi (((y : Nat) : Int))), some (vi (0)), none]) (dX9_laysReach_0.at 16 rfl) rfl (by decide) rfl ?_
    exact hv

set_option maxHeartbeats 2000000 in
set_option maxRecDepth 20000 in
theorem g_X9_laysReach_119 {G : GG} {j nw nx gn : Nat} {g : Nat → Sh} {c : Nat → Nat → Int} {post : Option AV → AM → Prop} {kd : Nat} {P : GD} {F : Nat → Int} {f : Nat → Nat} {x : Nat} {y : Nat} (hM : ML c P) (hV : GV P) (hF : RW P F f)  (hv : (x < 2147483648) ∧ (gN P < 2147483648) ∧ (((gN P ≤ x) → SW G (j + 4) mX9_laysReach 109 [some (vr (49)), none, some (vi (((y + 1 : Nat) : Int))), none, none] [] (S nw nx g, 78 + gn, (wr c 68 F)) B0 post) ∧ ((¬ (gN P ≤ x)) → (x < gN P) ∧ ((x < gN P) ∧ (((f x) < 9223372036854775808) ∧ (y < 64) ∧ (((((f x).testBit y) = false) → (x < 60) ∧ (SW G (j + 4) mX9_laysReach 119 [some (vr (49)), none, some (vi (((y : Nat) : Int))), some (vi (((x + 1 : Nat) : Int))), none] [] (S nw nx g, 78 + gn, (wr c 68 (u1 F x (((f x) ||| 0 : Nat) : Int)))) B0 post)) ∧ ((((f x).testBit y) = true) → (y < gN P) ∧ ((x < 60) ∧ (SW G (j + 4) mX9_laysReach 119 [some (vr (49)), none, some (vi (((y : Nat) : Int))), some (vi (((x + 1 : Nat) : Int))), none] [] (S nw nx g, 78 + gn, (wr c 68 (u1 F x (((f x) ||| (f y) : Nat) : Int)))) B0 post))))))))) :
    SW G (j + 4) mX9_laysReach 119 [some (vr (49)), none, some (vi (((y : Nat) : Int))), some (vi (((x : Nat) : Int))), none] [] (S nw nx g, 78 + gn, (wr c 68 F)) B0 post := by
  refine sw_iload_n (dX9_laysReach_1.at 21 rfl) rfl rfl ?_
  refine sw_aload_n (dX9_laysReach_1.at 22 rfl) rfl rfl ?_
  refine sw_getIE (w := ((gN P : Nat) : Int)) (dX9_laysReach_1.at 23 rfl) fp_X9_196 (S_lt 49 (by decide)) (S_49 nw nx g) rfl ((wr_off (c := c) (a := 68) (f := F) (i := 49) (k := 22) (by decide)).trans hM.1.2.1) ?_
  refine sw_icmpN_ge x (gN P) (tgt := 165) (dX9_laysReach_1.at 24 rfl) (by decide) hv.1 hv.2.1 (fun q => ?_) (fun q => ?_)
  · replace hv := hv.2.2.1 q
    refine sw_iinc (lo' := [some (vr (49)), none, some (vi (((y + 1 : Nat) : Int))), some (vi (((x : Nat) : Int))), none]) (dX9_laysReach_1.at 47 rfl) rfl (by decide) rfl ?_
    refine sw_goto (tgt := 109) (dX9_laysReach_1.at 48 rfl) (by decide) ?_
    exact sw_mask (bs := [true, false, true, false, false]) hv
  · replace hv := hv.2.2.2 q
    refine sw_aload_n (dX9_laysReach_1.at 25 rfl) rfl rfl ?_
    refine sw_getR (dX9_laysReach_1.at 26 rfl) fp_X9_71 (S_lt 49 (by decide)) (S_49 nw nx g) rfl rfl ?_
    refine sw_iload_n (dX9_laysReach_1.at 27 rfl) rfl rfl ?_
    refine sw_dup2 (dX9_laysReach_1.at 28 rfl) (fun _ h => by cases h) (fun _ h => by cases h) ?_
    refine sw_laldN x (w := ((f x : Nat) : Int)) (dX9_laysReach_1.at 29 rfl) (S_lt 68 (by decide)) (S_68 nw nx g) (by decide) (GV_lt hV hv.1) (hF _ hv.1) ?_
    replace hv := hv.2
    refine sw_aload_n (dX9_laysReach_1.at 30 rfl) rfl rfl ?_
    refine sw_getR (dX9_laysReach_1.at 31 rfl) fp_X9_71 (S_lt 49 (by decide)) (S_49 nw nx g) rfl rfl ?_
    refine sw_iload_n (dX9_laysReach_1.at 32 rfl) rfl rfl ?_
    refine sw_laldN x (w := ((f x : Nat) : Int)) (dX9_laysReach_1.at 33 rfl) (S_lt 68 (by decide)) (S_68 nw nx g) (by decide) (GV_lt hV hv.1) (hF _ hv.1) ?_
    replace hv := hv.2
    refine sw_iload_n (dX9_laysReach_1.at 34 rfl) rfl rfl ?_
    refine sw_callS (post' := post) (B' := B0) (As := [vl (((f x : Nat) : Int)), vi (((y : Nat) : Int))]) (mc := 0) (ms := 0) (dX9_laysReach_1.at 35 rfl) lk_X9_240 rfl rfl (Nat.le_of_ble_eq_true rfl) rfl (Nat.le_refl _) (Nat.le_refl _) ?_
    refine c_X9_has (s := (f x)) (i := y) (j := j + 3) hv.1 hv.2.1 ?_
    replace hv := hv.2.2
    refine sw_if_eq (tgt := 156) (dX9_laysReach_1.at 36 rfl) (by decide) (bz_rng _) (fun q => ?_) (fun q => ?_)
    · replace hv := hv.1 (bz_0 q)
      refine sw_lconst (z := 0) (dX9_laysReach_1.at 42 rfl) (by decide) ?_
      refine sw_lorN (f x) 0 (dX9_laysReach_1.at 43 rfl) ?_
      refine sw_lastN x (dX9_laysReach_1.at 44 rfl) (S_lt 68 (by decide)) (S_68 nw nx g) (by decide) hv.1 ?_
      refine SW.cg (M' := (S nw nx g, 78 + gn, (wr c 68 (u1 F x (((f x) ||| 0 : Nat) : Int))))) (congrArg (fun m => (S nw nx g, 78 + gn, m)) (wr_up c 68 F x (((f x) ||| 0 : Nat) : Int))) ?_
      replace hv := hv.2
      refine sw_iinc (lo' := [some (vr (49)), none, some (vi (((y : Nat) : Int))), some (vi (((x + 1 : Nat) : Int))), none]) (dX9_laysReach_1.at 45 rfl) rfl (by decide) rfl ?_
      refine sw_goto (tgt := 119) (dX9_laysReach_1.at 46 rfl) (by decide) ?_
      exact hv
    · replace hv := hv.2 (bz_n0 q)
      refine sw_aload_n (dX9_laysReach_1.at 37 rfl) rfl rfl ?_
      refine sw_getR (dX9_laysReach_1.at 38 rfl) fp_X9_71 (S_lt 49 (by decide)) (S_49 nw nx g) rfl rfl ?_
      refine sw_iload_n (dX9_laysReach_1.at 39 rfl) rfl rfl ?_
      refine sw_laldN y (w := ((f y : Nat) : Int)) (dX9_laysReach_1.at 40 rfl) (S_lt 68 (by decide)) (S_68 nw nx g) (by decide) (GV_lt hV hv.1) (hF _ hv.1) ?_
      replace hv := hv.2
      refine sw_goto (tgt := 157) (dX9_laysReach_1.at 41 rfl) (by decide) ?_
      refine sw_lorN (f x) (f y) (dX9_laysReach_1.at 43 rfl) ?_
      refine sw_lastN x (dX9_laysReach_1.at 44 rfl) (S_lt 68 (by decide)) (S_68 nw nx g) (by decide) hv.1 ?_
      refine SW.cg (M' := (S nw nx g, 78 + gn, (wr c 68 (u1 F x (((f x) ||| (f y) : Nat) : Int))))) (congrArg (fun m => (S nw nx g, 78 + gn, m)) (wr_up c 68 F x (((f x) ||| (f y) : Nat) : Int))) ?_
      replace hv := hv.2
      refine sw_iinc (lo' := [some (vr (49)), none, some (vi (((y : Nat) : Int))), some (vi (((x + 1 : Nat) : Int))), none]) (dX9_laysReach_1.at 45 rfl) rfl (by decide) rfl ?_
      refine sw_goto (tgt := 119) (dX9_laysReach_1.at 46 rfl) (by decide) ?_
      exact hv

set_option maxHeartbeats 2000000 in
set_option maxRecDepth 20000 in
theorem g_X9_laysReach_109 {G : GG} {j nw nx gn : Nat} {g : Nat → Sh} {c : Nat → Nat → Int} {post : Option AV → AM → Prop} {kd : Nat} {P : GD} {F : Nat → Int} {y : Nat} (hM : ML c P) (hV : GV P)  (hv : (y < 2147483648) ∧ (gN P < 2147483648) ∧ (((gN P ≤ y) → post none (S nw nx g, 78 + gn, (wr c 68 F))) ∧ ((¬ (gN P ≤ y)) → SW G (j + 4) mX9_laysReach 119 [some (vr (49)), none, some (vi (((y : Nat) : Int))), some (vi (0)), none] [] (S nw nx g, 78 + gn, (wr c 68 F)) B0 post))) :
    SW G (j + 4) mX9_laysReach 109 [some (vr (49)), none, some (vi (((y : Nat) : Int))), none, none] [] (S nw nx g, 78 + gn, (wr c 68 F)) B0 post := by
  refine sw_iload_n (dX9_laysReach_1.at 15 rfl) rfl rfl ?_
  refine sw_aload_n (dX9_laysReach_1.at 16 rfl) rfl rfl ?_
  refine sw_getIE (w := ((gN P : Nat) : Int)) (dX9_laysReach_1.at 17 rfl) fp_X9_196 (S_lt 49 (by decide)) (S_49 nw nx g) rfl ((wr_off (c := c) (a := 68) (f := F) (i := 49) (k := 22) (by decide)).trans hM.1.2.1) ?_
  refine sw_icmpN_ge y (gN P) (tgt := 171) (dX9_laysReach_1.at 18 rfl) (by decide) hv.1 hv.2.1 (fun q => ?_) (fun q => ?_)
  · replace hv := hv.2.2.1 q
    exact sw_vret (dX9_laysReach_1.at 49 rfl) rfl (Nat.le_refl _) (Nat.le_refl _) hv
  · replace hv := hv.2.2.2 q
    refine sw_iconst (dX9_laysReach_1.at 19 rfl) ?_
    refine sw_istore_n (lo' := [some (vr (49)), none, some (vi (((y : Nat) : Int))), some (vi (0)), none]) (dX9_laysReach_1.at 20 rfl) rfl (by decide) rfl ?_
    exact hv

set_option maxHeartbeats 2000000 in
set_option maxRecDepth 20000 in
theorem g_X9_laysReach_0 {G : GG} {j nw nx gn : Nat} {g : Nat → Sh} {c : Nat → Nat → Int} {post : Option AV → AM → Prop} {kd : Nat} {P : GD} {T : PT} (hM : ML c P) (hV : GV P) (hC : GC P) (hG : GP P T) (hR : RR P T c)  (hv : (∀ c_1 : Nat → Nat → Int, (SD c c_1 ∧ RD P T c_1) → SW G (j + 4) mX9_laysReach 6 [some (vr (49)), some (vi (((kd : Nat) : Int))), some (vi (0)), none, none] [] (S nw nx g, 78 + gn, c_1) B0 post)) :
    SW G (j + 4) mX9_laysReach 0 [some (vr (49)), some (vi (((kd : Nat) : Int))), none, none, none] [] (S nw nx g, 78 + gn, c) B0 post := by
  refine sw_aload_n (dX9_laysReach_0.at 0 rfl) rfl rfl ?_
  refine sw_callV (B' := B0) (As := []) (mc := 0) (ms := 0) (dX9_laysReach_0.at 1 rfl) lk_X9_305 (S_lt 49 (by decide)) (S_49 nw nx g) rfl rfl (Nat.le_of_ble_eq_true rfl) rfl (Nat.le_refl _) (Nat.le_refl _) ?_
  refine c_X9_laysPairs  (j := j + 0) hM hV hC hG hR (fun c_1 h_1 => ?_)
  replace hv := hv c_1 h_1
  refine sw_iconst (dX9_laysReach_0.at 2 rfl) ?_
  refine sw_istore_n (lo' := [some (vr (49)), some (vi (((kd : Nat) : Int))), some (vi (0)), none, none]) (dX9_laysReach_0.at 3 rfl) rfl (by decide) rfl ?_
  exact hv

set_option maxHeartbeats 4000000 in
theorem lr_25 {G : GG} {j nw nx gn : Nat} {g : Nat → Sh} {c : Nat → Nat → Int} {post : Option AV → AM → Prop} {P : GD} {T : PT} {kd y : Nat} (hM : ML c P) (hV : GV P) (hC : GC P) (hD : PD P T c) (hT : HT P T) (hk : kd < 3) (hy : y < gN P) (F0 : Nat → Int) (K : ∀ F : Nat → Int, (∀ q, q ≠ y → F q = F0 q) → F y = ((bitD (fun x => decide (x ≠ y) && isE P T kd y x) (gN P) 0 (1 * 2 ^ y) : Nat) : Int) → SW G (j + 4) mX9_laysReach 6 [some (vr (49)), some (vi (((kd : Nat) : Int))), some (vi (((y + 1 : Nat) : Int))), none, none] [] (S nw nx g, 78 + gn, (wr c 68 F)) B0 post) : ∀ (k x a : Nat) (F : Nat → Int), x + k = gN P → (∀ q, q ≠ y → F q = F0 q) → F y = ((a : Nat) : Int) → bitD (fun x => decide (x ≠ y) && isE P T kd y x) k x a = bitD (fun x => decide (x ≠ y) && isE P T kd y x) (gN P) 0 (1 * 2 ^ y) → SW G (j + 4) mX9_laysReach 25 [some (vr (49)), some (vi (((kd : Nat) : Int))), some (vi (((y : Nat) : Int))), some (vi (((x : Nat) : Int))), none] [] (S nw nx g, 78 + gn, (wr c 68 F)) B0 post := by
  have h60 := GV_N hV
  intro k
  induction k with
  | zero =>
    intro x a F hx hF hFa he
    rw [bitD] at he
    have K2 := K F hF (by rw [hFa, he])
    refine g_X9_laysReach_25 hM hV hC hD hT hFa ?_
    refine ⟨?_, ?_, ⟨fun q => ?_, fun q => ⟨?_, ⟨fun q => ⟨?_, ⟨fun q => ⟨?_, ⟨?_, ?_, ⟨fun q => ⟨?_, ?_⟩, fun q => ⟨?_, ?_⟩⟩⟩⟩, fun q => ⟨?_, ?_, ?_, ⟨fun q => ⟨?_, ⟨?_, ?_, ⟨fun q => ⟨?_, ?_⟩, fun q => ⟨?_, ?_⟩⟩⟩⟩, fun q => ⟨?_, ⟨?_, ?_, ⟨fun q => ⟨?_, ?_⟩, fun q => ⟨?_, ⟨?_, ?_⟩⟩⟩⟩⟩⟩⟩⟩⟩, fun q => ⟨?_, ?_, ?_, ⟨fun q => ⟨?_, ⟨?_, ?_, ⟨fun q => ⟨?_, ?_⟩, fun q => ⟨?_, ⟨?_, ?_⟩⟩⟩⟩⟩, fun q => ⟨?_, ⟨fun q => ⟨?_, ⟨?_, ?_, ⟨fun q => ⟨?_, ?_⟩, fun q => ⟨?_, ?_⟩⟩⟩⟩, fun q => ⟨?_, ?_, ?_, ⟨fun q => ⟨?_, ⟨?_, ?_, ⟨fun q => ⟨?_, ?_⟩, fun q => ⟨?_, ?_⟩⟩⟩⟩, fun q => ⟨?_, ⟨?_, ?_, ⟨fun q => ⟨?_, ?_⟩, fun q => ⟨?_, ⟨?_, ?_⟩⟩⟩⟩⟩⟩⟩⟩⟩⟩⟩⟩⟩⟩⟩
    all_goals first | omega | exact K2 | (exfalso; omega)
  | succ k ih =>
    intro x a F hx hF hFa he
    rw [bitD] at he
    have nx9 := fun (z : Nat) (hz : z = a ||| (if (decide (x ≠ y) && isE P T kd y x) = true then 1 * 2 ^ x else 0)) => ih (x + 1) z (u1 F y ((z : Nat) : Int)) (by omega) (fun q hq => by rw [u1_ne hq]; exact hF q hq) (u1_eq _ _ _) (by rw [hz]; exact he)
    have nxT : (decide (x ≠ y) && isE P T kd y x) = true → _ := fun h => nx9 (a ||| (1 * 2 ^ x)) (by rw [if_pos h])
    have nxF : (decide (x ≠ y) && isE P T kd y x) = false → _ := fun h => nx9 (a ||| 0) (by rw [if_neg (by rw [h]; decide)])
    refine g_X9_laysReach_25 hM hV hC hD hT hFa ?_
    refine ⟨?_, ?_, ⟨fun q => ?_, fun q => ⟨?_, ⟨fun q => ⟨?_, ⟨fun q => ⟨?_, ⟨?_, ?_, ⟨fun q => ⟨?_, ?_⟩, fun q => ⟨?_, ?_⟩⟩⟩⟩, fun q => ⟨?_, ?_, ?_, ⟨fun q => ⟨?_, ⟨?_, ?_, ⟨fun q => ⟨?_, ?_⟩, fun q => ⟨?_, ?_⟩⟩⟩⟩, fun q => ⟨?_, ⟨?_, ?_, ⟨fun q => ⟨?_, ?_⟩, fun q => ⟨?_, ⟨?_, ?_⟩⟩⟩⟩⟩⟩⟩⟩⟩, fun q => ⟨?_, ?_, ?_, ⟨fun q => ⟨?_, ⟨?_, ?_, ⟨fun q => ⟨?_, ?_⟩, fun q => ⟨?_, ⟨?_, ?_⟩⟩⟩⟩⟩, fun q => ⟨?_, ⟨fun q => ⟨?_, ⟨?_, ?_, ⟨fun q => ⟨?_, ?_⟩, fun q => ⟨?_, ?_⟩⟩⟩⟩, fun q => ⟨?_, ?_, ?_, ⟨fun q => ⟨?_, ⟨?_, ?_, ⟨fun q => ⟨?_, ?_⟩, fun q => ⟨?_, ?_⟩⟩⟩⟩, fun q => ⟨?_, ⟨?_, ?_, ⟨fun q => ⟨?_, ?_⟩, fun q => ⟨?_, ⟨?_, ?_⟩⟩⟩⟩⟩⟩⟩⟩⟩⟩⟩⟩⟩⟩⟩
    all_goals first | omega | assumption | (exfalso; omega) | (refine nxT ?_; simp [isE, *]; done) | (refine nxF ?_; simp [isE, *]; done) | (refine nxF ?_; have e0 : kd = 0 := (by omega); simp [isE, *]; done) | (refine nxF ?_; have e0 : kd = 1 := (by omega); simp [isE, *]; done)
set_option maxHeartbeats 4000000 in
theorem lr_6 {G : GG} {j nw nx gn : Nat} {g : Nat → Sh} {c : Nat → Nat → Int} {post : Option AV → AM → Prop} {P : GD} {T : PT} {kd : Nat} (hM : ML c P) (hV : GV P) (hC : GC P) (hD : PD P T c) (hT : HT P T) (hB : hBr P) (hk : kd < 3) (K : ∀ F : Nat → Int, RW P F (fun y => bitsU (edB P (muT P T) kd y) (gN P)) → SW G (j + 4) mX9_laysReach 109 [some (vr (49)), none, some (vi (0)), none, none] [] (S nw nx g, 78 + gn, (wr c 68 F)) B0 post) : ∀ (k y : Nat) (F : Nat → Int), y + k = gN P → (∀ q, q < y → F q = ((bitsU (edB P (muT P T) kd q) (gN P) : Nat) : Int)) → SW G (j + 4) mX9_laysReach 6 [some (vr (49)), some (vi (((kd : Nat) : Int))), some (vi (((y : Nat) : Int))), none, none] [] (S nw nx g, 78 + gn, (wr c 68 F)) B0 post := by
  have h60 := GV_N hV
  intro k
  induction k with
  | zero =>
    intro y F hy hF
    have K2 := K F (fun q hq => hF q (by omega))
    refine g_X9_laysReach_6 hM hV ?_
    refine ⟨?_, ?_, ⟨fun q => ?_, fun q => ⟨?_, ⟨?_, ?_⟩⟩⟩⟩
    all_goals first | omega | exact K2 | (exfalso; omega)
  | succ k ih =>
    intro y F hy hF
    have st9 := fun (F2 : Nat → Int) (h1 : ∀ q, q ≠ y → F2 q = u1 F y ((1 * 2 ^ y : Nat) : Int) q) (h2 : F2 y = ((bitD (fun x => decide (x ≠ y) && isE P T kd y x) (gN P) 0 (1 * 2 ^ y) : Nat) : Int)) => ih (y + 1) F2 (by omega) (fun q hq => by
      by_cases e : q = y
      · rw [e, h2, rb_end hB (by omega)]
      · rw [h1 q e, u1_ne e]; exact hF q (by omega))
    refine g_X9_laysReach_6 hM hV ?_
    refine ⟨?_, ?_, ⟨fun q => ?_, fun q => ⟨?_, ⟨?_, ?_⟩⟩⟩⟩
    all_goals first | omega | (exfalso; omega) | exact lr_25 hM hV hC hD hT hk (by omega) (u1 F y ((1 * 2 ^ y : Nat) : Int)) st9 (gN P) 0 _ _ (by omega) (fun q hq => rfl) (u1_eq _ _ _) rfl
set_option maxHeartbeats 4000000 in
theorem lr_119 {G : GG} {j nw nx gn : Nat} {g : Nat → Sh} {c : Nat → Nat → Int} {post : Option AV → AM → Prop} {P : GD} {kd m : Nat} (hM : ML c P) (hV : GV P) (hm : m < gN P) : ∀ (k x : Nat) (F : Nat → Int) (f : Nat → Nat), x + k = gN P → RW P F f → (∀ q, q < gN P → f q < 2 ^ 60) → (∀ F2 : Nat → Int, RW P F2 (clX f 0 m k x) → SW G (j + 4) mX9_laysReach 109 [some (vr (49)), none, some (vi (((m + 1 : Nat) : Int))), none, none] [] (S nw nx g, 78 + gn, (wr c 68 F2)) B0 post) → SW G (j + 4) mX9_laysReach 119 [some (vr (49)), none, some (vi (((m : Nat) : Int))), some (vi (((x : Nat) : Int))), none] [] (S nw nx g, 78 + gn, (wr c 68 F)) B0 post := by
  have h60 := GV_N hV
  intro k
  induction k with
  | zero =>
    intro x F f hx hF hb K
    have K2 := K F hF
    refine g_X9_laysReach_119 (kd := kd) hM hV hF ?_
    refine ⟨?_, ?_, ⟨fun q => ?_, fun q => ⟨?_, ⟨?_, ⟨?_, ?_, ⟨fun q => ⟨?_, ?_⟩, fun q => ⟨?_, ⟨?_, ?_⟩⟩⟩⟩⟩⟩⟩⟩
    all_goals first | omega | exact K2 | (exfalso; omega)
  | succ k ih =>
    intro x F f hx hF hb K
    rw [clX, Nat.zero_add, Nat.zero_add] at K
    have b1 := lt63 (hb x (by omega))
    have b2 := hb x (by omega)
    have b3 := hb m hm
    refine g_X9_laysReach_119 (kd := kd) hM hV hF ?_
    cases hbit : (f x).testBit m with
    | true =>
      rw [hbit, if_pos rfl] at K
      have nb : ∀ q, q < gN P → uN f x (f x ||| f m) q < 2 ^ 60 := by
        intro q hq
        by_cases e : q = x
        · rw [e, uN_eq]; exact Nat.or_lt_two_pow b2 b3
        · rw [uN_ne e]; exact hb q hq
      refine ⟨?_, ?_, ⟨fun q => ?_, fun q => ⟨?_, ⟨?_, ⟨?_, ?_, ⟨fun q => ⟨?_, ?_⟩, fun q => ⟨?_, ⟨?_, ?_⟩⟩⟩⟩⟩⟩⟩⟩
      all_goals first | omega | assumption | contradiction | (exfalso; omega) | exact ih _ _ _ (by omega) (RW_u hF) nb K
    | false =>
      rw [hbit, if_neg (by decide)] at K
      have hF2 : RW P (u1 F x ((f x ||| 0 : Nat) : Int)) f := fun q hq => by
        by_cases e : q = x
        · rw [e, u1_eq, Nat.or_zero]
        · rw [u1_ne e]; exact hF q hq
      refine ⟨?_, ?_, ⟨fun q => ?_, fun q => ⟨?_, ⟨?_, ⟨?_, ?_, ⟨fun q => ⟨?_, ?_⟩, fun q => ⟨?_, ⟨?_, ?_⟩⟩⟩⟩⟩⟩⟩⟩
      all_goals first | omega | assumption | contradiction | (exfalso; omega) | exact ih _ _ _ (by omega) hF2 hb K
set_option maxHeartbeats 4000000 in
theorem lr_109 {G : GG} {j nw nx gn : Nat} {g : Nat → Sh} {c : Nat → Nat → Int} {post : Option AV → AM → Prop} {P : GD} {kd : Nat} (hM : ML c P) (hV : GV P) : ∀ (k m : Nat) (F : Nat → Int) (f : Nat → Nat), m + k = gN P → RW P F f → (∀ q, q < gN P → f q < 2 ^ 60) → (∀ F2 : Nat → Int, RW P F2 (clM 0 (gN P) k m f) → post none (S nw nx g, 78 + gn, wr c 68 F2)) → SW G (j + 4) mX9_laysReach 109 [some (vr (49)), none, some (vi (((m : Nat) : Int))), none, none] [] (S nw nx g, 78 + gn, (wr c 68 F)) B0 post := by
  have h60 := GV_N hV
  intro k
  induction k with
  | zero =>
    intro m F f hm hF hb K
    have K2 := K F hF
    refine g_X9_laysReach_109 (kd := kd) hM hV ?_
    refine ⟨?_, ?_, ⟨fun q => ?_, fun q => ?_⟩⟩
    all_goals first | omega | exact K2 | (exfalso; omega)
  | succ k ih =>
    intro m F f hm hF hb K
    rw [clM] at K
    have b9 : ∀ q, q < gN P → clX f 0 m (gN P) 0 q < 2 ^ 60 := by
      have hX : ∀ (k x : Nat) (f : Nat → Nat), x + k ≤ gN P → (∀ q, q < gN P → f q < 2 ^ 60) → ∀ q, q < gN P → clX f 0 m k x q < 2 ^ 60 := by
        intro k
        induction k with
        | zero => intro x f _ h q hq; exact h q hq
        | succ k ih2 =>
          intro x f hx h
          rw [clX]
          refine ih2 _ _ (by omega) (fun q hq => ?_)
          split
          · simp only [uN]
            split
            · exact Nat.or_lt_two_pow (h _ (by omega)) (h _ (by omega))
            · exact h q hq
          · exact h q hq
      exact hX (gN P) 0 f (by omega) hb
    refine g_X9_laysReach_109 (kd := kd) hM hV ?_
    refine ⟨?_, ?_, ⟨fun q => ?_, fun q => ?_⟩⟩
    all_goals first | omega | (exfalso; omega) | exact lr_119 (kd := kd) hM hV (by omega) (gN P) 0 F f (by omega) hF hb (fun F2 h2 => ih _ F2 _ (by omega) h2 b9 K)
theorem c_X9_laysReach {G : GG} {j nw nx gn : Nat} {g : Nat → Sh} {c : Nat → Nat → Int} {post : Option AV → AM → Prop} {P : GD} {T : PT} {kd : Nat} (hM : ML c P) (hV : GV P) (hC : GC P) (hG : GP P T) (hR : RR P T c) (hT : HT P T) (hk : kd < 3) (K : ∀ c2 : Nat → Nat → Int, (SD c c2 ∧ RD P T c2 ∧ ∀ y, y < gN P → c2 68 y = ((RC P T kd y : Nat) : Int)) → post none (S nw nx g, 78 + gn, c2)) : SM G (j + 5) mX9_laysReach [vr 49, vi ((kd : Nat) : Int)] (S nw nx g, 78 + gn, c) 0 0 post := by
  refine sm_of wX9_laysReach rfl (Nat.le_of_ble_eq_true rfl) ?_
  refine g_X9_laysReach_0 hM hV hC hG hR (fun c_1 h_1 => ?_)
  have h60 := GV_N hV
  have hM1 := ML_SD hM h_1.1
  have h9 := lr_6 (c := c_1) (G := G) (j := j) (nw := nw) (nx := nx) (gn := gn) (g := g) (post := post) (kd := kd) hM1 hV hC h_1.2.2 hT hG.1 hk (fun F hF => lr_109 (kd := kd) hM1 hV (gN P) 0 F _ (by omega) hF (fun q hq => bitsU_63 h60) (fun F2 h2 => K _ ⟨SD_wr h_1.1 (by decide), RD_SC h_1.2 (SC_wr SC_rf (by decide)), fun y hy => by rw [wr_at, h2 y hy]; rfl⟩)) (gN P) 0 (c_1 68) (by omega) (fun q hq => by omega)
  rw [wr_self] at h9
  exact h9

