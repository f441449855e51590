def q_p (P : GD) (T : PT) (x y k : Int) : Int := if ((0 ≤ x ∧ x < (gN P : Int)) ∧ 0 ≤ y ∧ y < (gN P : Int)) ∧ 0 ≤ k then if k.toNat < 8 then T x.toNat y.toNat k.toNat else 0 else (-1000000)
set_option maxHeartbeats 2000000 in
set_option maxRecDepth 20000 in
theorem g_X8_p_0n {G : GG} {j nw nx gn : Nat} {g : Nat → Sh} {c : Nat → Nat → Int} {post : Option AV → AM → Prop} {x : Nat} {y : Nat} {k : Nat} {P : GD} {T : PT} (hnw : nw = 21 ∨ nw = 35) (hE : EL c nw P) (hV : GV P) (hT : HT P T) (hR : PR P T c)  (hv : (-2147483648 ≤ ((x : Nat) : Int) ∧ ((x : Nat) : Int) < 2147483648) ∧ (-2147483648 ≤ ((y : Nat) : Int) ∧ ((y : Nat) : Int) < 2147483648) ∧ ((((decide ((0 ≤ ((x : Nat) : Int) ∧ ((x : Nat) : Int) < (gN P : Int)) ∧ 0 ≤ ((y : Nat) : Int) ∧ ((y : Nat) : Int) < (gN P : Int))) = false) → post (some (vi ((-1000000)))) (S nw nx g, 78 + gn, c)) ∧ (((decide ((0 ≤ ((x : Nat) : Int) ∧ ((x : Nat) : Int) < (gN P : Int)) ∧ 0 ≤ ((y : Nat) : Int) ∧ ((y : Nat) : Int) < (gN P : Int))) = true) → (k < 2147483648) ∧ (((0 ≤ ((k : Nat) : Int)) → (PR P T c) ∧ (∀ c_1 : Nat → Nat → Int, ((∀ a, a ≠ 5 → a ≠ 6 → c_1 a = c a) ∧ c_1 5 1 = 1 ∧ AT P T (gN P) (c_1 6)) → (x < 60) ∧ (y < 60) ∧ (k < 2147483648) ∧ (post (some (vi ((if k < 8 then c_1 6 ((x * 60 + y) * 8 + k) else 0)))) (S nw nx g, 78 + gn, c_1)))) ∧ ((¬ (0 ≤ ((k : Nat) : Int))) → post (some (vi ((-1000000)))) (S nw nx g, 78 + gn, c)))))) :
    SW G (j + 5) mX8_p 0 [some (vr (0)), some (vi (((x : Nat) : Int))), some (vi (((y : Nat) : Int))), some (vi (((k : Nat) : Int)))] [] (S nw nx g, 78 + gn, c) B0 post := by
  refine sw_aload_n (dX8_p.at 0 rfl) rfl rfl ?_
  refine sw_iload_n (dX8_p.at 1 rfl) rfl rfl ?_
  refine sw_iload_n (dX8_p.at 2 rfl) rfl rfl ?_
  refine sw_callV (B' := B0) (As := [vi (((x : Nat) : Int)), vi (((y : Nat) : Int))]) (mc := 0) (ms := 0) (dX8_p.at 3 rfl) lk_X8_157 (S_lt 0 (by decide)) (S_0 nw nx g) rfl rfl (Nat.le_of_ble_eq_true rfl) rfl (Nat.le_refl _) (Nat.le_refl _) ?_
  refine c_X8_arePair (x := ((x : Nat) : Int)) (y := ((y : Nat) : Int)) (j := j + 3) hnw hE hV hv.1 hv.2.1 ?_
  replace hv := hv.2.2
  refine sw_if_eq (tgt := 13) (dX8_p.at 4 rfl) (by decide) (bz_rng _) (fun q => ?_) (fun q => ?_)
  · replace hv := hv.1 (bz_0 q)
    refine sw_ldc (z := (-1000000)) (dX8_p.at 7 rfl) kc_X8_196 (by decide) ?_
    exact sw_iret (dX8_p.at 8 rfl) rfl (Nat.le_refl _) (Nat.le_refl _) hv
  · replace hv := hv.2 (bz_n0 q)
    refine sw_iload_n (dX8_p.at 5 rfl) rfl rfl ?_
    refine sw_if_ge (tgt := 16) (dX8_p.at 6 rfl) (by decide) (nrng hv.1) (fun q => ?_) (fun q => ?_)
    · replace hv := hv.2.1 q
      refine sw_aload_n (dX8_p.at 9 rfl) rfl rfl ?_
      refine sw_getR (dX8_p.at 10 rfl) fp_X8_26 (S_lt 0 (by decide)) (S_0 nw nx g) rfl rfl ?_
      refine sw_aload_n (dX8_p.at 11 rfl) rfl rfl ?_
      refine sw_getR (dX8_p.at 12 rfl) fp_X8_65 (S_lt 0 (by decide)) (S_0 nw nx g) rfl rfl ?_
      refine sw_callV (B' := B0) (As := [vr (nw)]) (mc := 0) (ms := 0) (dX8_p.at 13 rfl) lk_X8_204 (S_lt 5 (by decide)) (S_5 nw nx g) rfl rfl (Nat.le_of_ble_eq_true rfl) rfl (Nat.le_refl _) (Nat.le_refl _) ?_
      refine c_X4_prepare (e := nw) (j := j + 0) hnw hE hV hT hv.1 (fun c_1 h_1 => ?_)
      replace hv := hv.2 c_1 h_1
      refine sw_aload_n (dX8_p.at 14 rfl) rfl rfl ?_
      refine sw_getR (dX8_p.at 15 rfl) fp_X8_26 (S_lt 0 (by decide)) (S_0 nw nx g) rfl rfl ?_
      refine sw_iload_n (dX8_p.at 16 rfl) rfl rfl ?_
      refine sw_iload_n (dX8_p.at 17 rfl) rfl rfl ?_
      refine sw_iload_n (dX8_p.at 18 rfl) rfl rfl ?_
      refine sw_callV (B' := B0) (As := [vi (((x : Nat) : Int)), vi (((y : Nat) : Int)), vi (((k : Nat) : Int))]) (mc := 0) (ms := 0) (dX8_p.at 19 rfl) lk_X8_208 (S_lt 5 (by decide)) (S_5 nw nx g) rfl rfl (Nat.le_of_ble_eq_true rfl) rfl (Nat.le_refl _) (Nat.le_refl _) ?_
      refine c_X4_number (v := x) (w := y) (k := k) (j := j + 4) hv.1 hv.2.1 hv.2.2.1 ?_
      replace hv := hv.2.2.2
      exact sw_iret (dX8_p.at 20 rfl) rfl (Nat.le_refl _) (Nat.le_refl _) hv
    · replace hv := hv.2.2 q
      refine sw_ldc (z := (-1000000)) (dX8_p.at 7 rfl) kc_X8_196 (by decide) ?_
      exact sw_iret (dX8_p.at 8 rfl) rfl (Nat.le_refl _) (Nat.le_refl _) hv

set_option maxHeartbeats 2000000 in
set_option maxRecDepth 20000 in
theorem g_X8_p_0 {G : GG} {j nw nx gn : Nat} {g : Nat → Sh} {c : Nat → Nat → Int} {post : Option AV → AM → Prop} {x : Int} {y : Int} {k : Int} {P : GD} {T : PT} (hnw : nw = 21 ∨ nw = 35) (hE : EL c nw P) (hV : GV P) (hT : HT P T) (hR : PR P T c)  (hv : (-2147483648 ≤ x ∧ x < 2147483648) ∧ (-2147483648 ≤ y ∧ y < 2147483648) ∧ ((((decide ((0 ≤ x ∧ x < (gN P : Int)) ∧ 0 ≤ y ∧ y < (gN P : Int))) = false) → post (some (vi ((-1000000)))) (S nw nx g, 78 + gn, c)) ∧ (((decide ((0 ≤ x ∧ x < (gN P : Int)) ∧ 0 ≤ y ∧ y < (gN P : Int))) = true) → (-2147483648 ≤ k ∧ k < 2147483648) ∧ (((0 ≤ k) → (PR P T c) ∧ (∀ c_1 : Nat → Nat → Int, ((∀ a, a ≠ 5 → a ≠ 6 → c_1 a = c a) ∧ c_1 5 1 = 1 ∧ AT P T (gN P) (c_1 6)) → SW G (j + 5) mX8_p 34 [some (vr (0)), some (vi (x)), some (vi (y)), some (vi (k))] [vi (k), vi (y), vi (x), vr (5)] (S nw nx g, 78 + gn, c_1) B0 post)) ∧ ((¬ (0 ≤ k)) → post (some (vi ((-1000000)))) (S nw nx g, 78 + gn, c)))))) :
    SW G (j + 5) mX8_p 0 [some (vr (0)), some (vi (x)), some (vi (y)), some (vi (k))] [] (S nw nx g, 78 + gn, c) B0 post := by
  refine sw_aload_n (dX8_p.at 0 rfl) rfl rfl ?_
  refine sw_iload_n (dX8_p.at 1 rfl) rfl rfl ?_
  refine sw_iload_n (dX8_p.at 2 rfl) rfl rfl ?_
  refine sw_callV (B' := B0) (As := [vi (x), vi (y)]) (mc := 0) (ms := 0) (dX8_p.at 3 rfl) lk_X8_157 (S_lt 0 (by decide)) (S_0 nw nx g) rfl rfl (Nat.le_of_ble_eq_true rfl) rfl (Nat.le_refl _) (Nat.le_refl _) ?_
  refine c_X8_arePair (x := x) (y := y) (j := j + 3) hnw hE hV hv.1 hv.2.1 ?_
  replace hv := hv.2.2
  refine sw_if_eq (tgt := 13) (dX8_p.at 4 rfl) (by decide) (bz_rng _) (fun q => ?_) (fun q => ?_)
  · replace hv := hv.1 (bz_0 q)
    refine sw_ldc (z := (-1000000)) (dX8_p.at 7 rfl) kc_X8_196 (by decide) ?_
    exact sw_iret (dX8_p.at 8 rfl) rfl (Nat.le_refl _) (Nat.le_refl _) hv
  · replace hv := hv.2 (bz_n0 q)
    refine sw_iload_n (dX8_p.at 5 rfl) rfl rfl ?_
    refine sw_if_ge (tgt := 16) (dX8_p.at 6 rfl) (by decide) hv.1 (fun q => ?_) (fun q => ?_)
    · replace hv := hv.2.1 q
      refine sw_aload_n (dX8_p.at 9 rfl) rfl rfl ?_
      refine sw_getR (dX8_p.at 10 rfl) fp_X8_26 (S_lt 0 (by decide)) (S_0 nw nx g) rfl rfl ?_
      refine sw_aload_n (dX8_p.at 11 rfl) rfl rfl ?_
      refine sw_getR (dX8_p.at 12 rfl) fp_X8_65 (S_lt 0 (by decide)) (S_0 nw nx g) rfl rfl ?_
      refine sw_callV (B' := B0) (As := [vr (nw)]) (mc := 0) (ms := 0) (dX8_p.at 13 rfl) lk_X8_204 (S_lt 5 (by decide)) (S_5 nw nx g) rfl rfl (Nat.le_of_ble_eq_true rfl) rfl (Nat.le_refl _) (Nat.le_refl _) ?_
      refine c_X4_prepare (e := nw) (j := j + 0) hnw hE hV hT hv.1 (fun c_1 h_1 => ?_)
      replace hv := hv.2 c_1 h_1
      refine sw_aload_n (dX8_p.at 14 rfl) rfl rfl ?_
      refine sw_getR (dX8_p.at 15 rfl) fp_X8_26 (S_lt 0 (by decide)) (S_0 nw nx g) rfl rfl ?_
      refine sw_iload_n (dX8_p.at 16 rfl) rfl rfl ?_
      refine sw_iload_n (dX8_p.at 17 rfl) rfl rfl ?_
      refine sw_iload_n (dX8_p.at 18 rfl) rfl rfl ?_
      exact hv
    · replace hv := hv.2.2 q
      refine sw_ldc (z := (-1000000)) (dX8_p.at 7 rfl) kc_X8_196 (by decide) ?_
      exact sw_iret (dX8_p.at 8 rfl) rfl (Nat.le_refl _) (Nat.le_refl _) hv

set_option maxHeartbeats 4000000 in
theorem c_X8_p {G : GG} {j nw nx gn : Nat} {g : Nat → Sh} {c : Nat → Nat → Int} {post : Option AV → AM → Prop} {P : GD} {T : PT} {x y k : Int} (hnw : nw = 21 ∨ nw = 35) (hE : EL c nw P) (hV : GV P) (hT : HT P T) (hR : PR P T c) (p1 : -2147483648 ≤ x ∧ x < 2147483648) (p2 : -2147483648 ≤ y ∧ y < 2147483648) (p3 : -2147483648 ≤ k ∧ k < 2147483648) (K : ∀ c2 : Nat → Nat → Int, ((∀ a, a ≠ 5 → a ≠ 6 → c2 a = c a) ∧ PR P T c2) → post (some (vi (q_p P T x y k))) (S nw nx g, 78 + gn, c2)) : SM G (j + 6) mX8_p [vr (0), vi (x), vi (y), vi (k)] (S nw nx g, 78 + gn, c) 0 0 post := by
  refine sm_of wX8_p rfl (Nat.le_of_ble_eq_true rfl) ?_
  have hN60 := GV_N hV
  have hR5 := GV_R hV
  by_cases hv : ((0 ≤ x ∧ x < (gN P : Int)) ∧ 0 ≤ y ∧ y < (gN P : Int)) ∧ 0 ≤ k
  · obtain ⟨x, rfl⟩ : ∃ n : Nat, x = (n : Int) := ⟨x.toNat, by omega⟩
    obtain ⟨y, rfl⟩ : ∃ n : Nat, y = (n : Int) := ⟨y.toNat, by omega⟩
    obtain ⟨k, rfl⟩ : ∃ n : Nat, k = (n : Int) := ⟨k.toNat, by omega⟩
    have e : q_p P T ((x : Nat) : Int) ((y : Nat) : Int) ((k : Nat) : Int) = if k < 8 then T x y k else 0 := by
      rw [q_p, if_pos hv]
      simp only [Int.toNat_natCast]
    rw [e] at K
    refine g_X8_p_0n hnw hE hV hT hR ?_
    refine ⟨?_, ?_, ⟨fun q => ?_, fun q => ⟨?_, ⟨fun q => ⟨?_, fun c_1 h_1 => ⟨?_, ?_, ?_, ?_⟩⟩, fun q => ?_⟩⟩⟩⟩
    all_goals first | omega | assumption | (exfalso; simp only [decide_eq_true_eq, decide_eq_false_iff_not] at *; omega) | (have K2 := K c_1 ⟨h_1.1, Or.inr h_1.2⟩; have e9 : (if k < 8 then c_1 6 ((x * 60 + y) * 8 + k) else 0) = (if k < 8 then T x y k else 0) := (by split <;> first | rfl | exact h_1.2.2 x y k (by omega) (by omega) (by assumption)); rw [e9]; exact K2)
  · have e : q_p P T x y k = (-1000000) := by rw [q_p, if_neg hv]
    rw [e] at K
    refine g_X8_p_0 hnw hE hV hT hR ?_
    have K := K c ⟨fun _ _ _ => rfl, hR⟩
    refine ⟨?_, ?_, ⟨fun q => ?_, fun q => ⟨?_, ⟨fun q => ⟨?_, fun c_1 h_1 => ?_⟩, fun q => ?_⟩⟩⟩⟩
    all_goals first | exact K | omega | assumption | (exfalso; simp only [decide_eq_true_eq, decide_eq_false_iff_not] at *; omega)

def muT (P : GD) (T : PT) (v w : Nat) : Int := if gL P v < gL P w ∧ (gL P w - gL P v) % 2 = 1 then T v w ((gL P w - gL P v - 1) / 2) else 0
theorem muG_T {P : GD} {T : PT} {f : Nat → Int} (hV : GV P) (h : AT P T (gN P) f) {v w : Nat} (hv : v < gN P) (hw : w < gN P) : muG P f v w = muT P T v w := by
  have h1 := (hV.2.2.1 w hw).1
  rw [muG, muT]
  split
  · exact h v w _ hv hw (by omega)
  · rfl
def q_mu (P : GD) (T : PT) (x y : Int) : Int := if (0 ≤ x ∧ x < (gN P : Int)) ∧ 0 ≤ y ∧ y < (gN P : Int) then muT P T x.toNat y.toNat else (-2)
set_option maxHeartbeats 2000000 in
set_option maxRecDepth 20000 in
theorem g_X8_mu_0n {G : GG} {j nw nx gn : Nat} {g : Nat → Sh} {c : Nat → Nat → Int} {post : Option AV → AM → Prop} {x : Nat} {y : Nat} {P : GD} {T : PT} (hnw : nw = 21 ∨ nw = 35) (hE : EL c nw P) (hV : GV P) (hT : HT P T) (hR : PR P T c)  (hv : (-2147483648 ≤ ((x : Nat) : Int) ∧ ((x : Nat) : Int) < 2147483648) ∧ (-2147483648 ≤ ((y : Nat) : Int) ∧ ((y : Nat) : Int) < 2147483648) ∧ ((((decide ((0 ≤ ((x : Nat) : Int) ∧ ((x : Nat) : Int) < (gN P : Int)) ∧ 0 ≤ ((y : Nat) : Int) ∧ ((y : Nat) : Int) < (gN P : Int))) = true) → (PR P T c) ∧ (∀ c_1 : Nat → Nat → Int, ((∀ a, a ≠ 5 → a ≠ 6 → c_1 a = c a) ∧ c_1 5 1 = 1 ∧ AT P T (gN P) (c_1 6)) → (x < gN P) ∧ (y < gN P) ∧ (post (some (vi (muG P (c_1 6) x y))) (S nw nx g, 78 + gn, c_1)))) ∧ (((decide ((0 ≤ ((x : Nat) : Int) ∧ ((x : Nat) : Int) < (gN P : Int)) ∧ 0 ≤ ((y : Nat) : Int) ∧ ((y : Nat) : Int) < (gN P : Int))) = false) → post (some (vi ((-2)))) (S nw nx g, 78 + gn, c)))) :
    SW G (j + 5) mX8_mu 0 [some (vr (0)), some (vi (((x : Nat) : Int))), some (vi (((y : Nat) : Int)))] [] (S nw nx g, 78 + gn, c) B0 post := by
  refine sw_aload_n (dX8_mu.at 0 rfl) rfl rfl ?_
  refine sw_iload_n (dX8_mu.at 1 rfl) rfl rfl ?_
  refine sw_iload_n (dX8_mu.at 2 rfl) rfl rfl ?_
  refine sw_callV (B' := B0) (As := [vi (((x : Nat) : Int)), vi (((y : Nat) : Int))]) (mc := 0) (ms := 0) (dX8_mu.at 3 rfl) lk_X8_157 (S_lt 0 (by decide)) (S_0 nw nx g) rfl rfl (Nat.le_of_ble_eq_true rfl) rfl (Nat.le_refl _) (Nat.le_refl _) ?_
  refine c_X8_arePair (x := ((x : Nat) : Int)) (y := ((y : Nat) : Int)) (j := j + 3) hnw hE hV hv.1 hv.2.1 ?_
  replace hv := hv.2.2
  refine sw_if_ne (tgt := 12) (dX8_mu.at 4 rfl) (by decide) (bz_rng _) (fun q => ?_) (fun q => ?_)
  · replace hv := hv.1 (bz_1 q)
    refine sw_aload_n (dX8_mu.at 7 rfl) rfl rfl ?_
    refine sw_getR (dX8_mu.at 8 rfl) fp_X8_26 (S_lt 0 (by decide)) (S_0 nw nx g) rfl rfl ?_
    refine sw_aload_n (dX8_mu.at 9 rfl) rfl rfl ?_
    refine sw_getR (dX8_mu.at 10 rfl) fp_X8_65 (S_lt 0 (by decide)) (S_0 nw nx g) rfl rfl ?_
    refine sw_callV (B' := B0) (As := [vr (nw)]) (mc := 0) (ms := 0) (dX8_mu.at 11 rfl) lk_X8_204 (S_lt 5 (by decide)) (S_5 nw nx g) rfl rfl (Nat.le_of_ble_eq_true rfl) rfl (Nat.le_refl _) (Nat.le_refl _) ?_
    refine c_X4_prepare (e := nw) (j := j + 0) hnw hE hV hT hv.1 (fun c_1 h_1 => ?_)
    replace hv := hv.2 c_1 h_1
    refine sw_aload_n (dX8_mu.at 12 rfl) rfl rfl ?_
    refine sw_getR (dX8_mu.at 13 rfl) fp_X8_26 (S_lt 0 (by decide)) (S_0 nw nx g) rfl rfl ?_
    refine sw_aload_n (dX8_mu.at 14 rfl) rfl rfl ?_
    refine sw_getR (dX8_mu.at 15 rfl) fp_X8_65 (S_lt 0 (by decide)) (S_0 nw nx g) rfl rfl ?_
    refine sw_iload_n (dX8_mu.at 16 rfl) rfl rfl ?_
    refine sw_iload_n (dX8_mu.at 17 rfl) rfl rfl ?_
    refine sw_callV (B' := B0) (As := [vr (nw), vi (((x : Nat) : Int)), vi (((y : Nat) : Int))]) (mc := 0) (ms := 0) (dX8_mu.at 18 rfl) lk_X8_214 (S_lt 5 (by decide)) (S_5 nw nx g) rfl rfl (Nat.le_of_ble_eq_true rfl) rfl (Nat.le_refl _) (Nat.le_refl _) ?_
    refine c_X4_middle (e := nw) (v := x) (w := y) (j := j + 3) hnw (EL_same hE (fun q hq => h_1.1 _ (by omega) (by omega))) hV hv.1 hv.2.1 ?_
    replace hv := hv.2.2
    exact sw_iret (dX8_mu.at 19 rfl) rfl (Nat.le_refl _) (Nat.le_refl _) hv
  · replace hv := hv.2 (bz_n1 q)
    refine sw_bipush (dX8_mu.at 5 rfl) (by decide) ?_
    exact sw_iret (dX8_mu.at 6 rfl) rfl (Nat.le_refl _) (Nat.le_refl _) hv

set_option maxHeartbeats 2000000 in
set_option maxRecDepth 20000 in
theorem g_X8_mu_0 {G : GG} {j nw nx gn : Nat} {g : Nat → Sh} {c : Nat → Nat → Int} {post : Option AV → AM → Prop} {x : Int} {y : Int} {P : GD} {T : PT} (hnw : nw = 21 ∨ nw = 35) (hE : EL c nw P) (hV : GV P) (hT : HT P T) (hR : PR P T c)  (hv : (-2147483648 ≤ x ∧ x < 2147483648) ∧ (-2147483648 ≤ y ∧ y < 2147483648) ∧ ((((decide ((0 ≤ x ∧ x < (gN P : Int)) ∧ 0 ≤ y ∧ y < (gN P : Int))) = true) → (PR P T c) ∧ (∀ c_1 : Nat → Nat → Int, ((∀ a, a ≠ 5 → a ≠ 6 → c_1 a = c a) ∧ c_1 5 1 = 1 ∧ AT P T (gN P) (c_1 6)) → SW G (j + 5) mX8_mu 33 [some (vr (0)), some (vi (x)), some (vi (y))] [vi (y), vi (x), vr (nw), vr (5)] (S nw nx g, 78 + gn, c_1) B0 post)) ∧ (((decide ((0 ≤ x ∧ x < (gN P : Int)) ∧ 0 ≤ y ∧ y < (gN P : Int))) = false) → post (some (vi ((-2)))) (S nw nx g, 78 + gn, c)))) :
    SW G (j + 5) mX8_mu 0 [some (vr (0)), some (vi (x)), some (vi (y))] [] (S nw nx g, 78 + gn, c) B0 post := by
  refine sw_aload_n (dX8_mu.at 0 rfl) rfl rfl ?_
  refine sw_iload_n (dX8_mu.at 1 rfl) rfl rfl ?_
  refine sw_iload_n (dX8_mu.at 2 rfl) rfl rfl ?_
  refine sw_callV (B' := B0) (As := [vi (x), vi (y)]) (mc := 0) (ms := 0) (dX8_mu.at 3 rfl) lk_X8_157 (S_lt 0 (by decide)) (S_0 nw nx g) rfl rfl (Nat.le_of_ble_eq_true rfl) rfl (Nat.le_refl _) (Nat.le_refl _) ?_
  refine c_X8_arePair (x := x) (y := y) (j := j + 3) hnw hE hV hv.1 hv.2.1 ?_
  replace hv := hv.2.2
  refine sw_if_ne (tgt := 12) (dX8_mu.at 4 rfl) (by decide) (bz_rng _) (fun q => ?_) (fun q => ?_)
  · replace hv := hv.1 (bz_1 q)
    refine sw_aload_n (dX8_mu.at 7 rfl) rfl rfl ?_
    refine sw_getR (dX8_mu.at 8 rfl) fp_X8_26 (S_lt 0 (by decide)) (S_0 nw nx g) rfl rfl ?_
    refine sw_aload_n (dX8_mu.at 9 rfl) rfl rfl ?_
    refine sw_getR (dX8_mu.at 10 rfl) fp_X8_65 (S_lt 0 (by decide)) (S_0 nw nx g) rfl rfl ?_
    refine sw_callV (B' := B0) (As := [vr (nw)]) (mc := 0) (ms := 0) (dX8_mu.at 11 rfl) lk_X8_204 (S_lt 5 (by decide)) (S_5 nw nx g) rfl rfl (Nat.le_of_ble_eq_true rfl) rfl (Nat.le_refl _) (Nat.le_refl _) ?_
    refine c_X4_prepare (e := nw) (j := j + 0) hnw hE hV hT hv.1 (fun c_1 h_1 => ?_)
    replace hv := hv.2 c_1 h_1
    refine sw_aload_n (dX8_mu.at 12 rfl) rfl rfl ?_
    refine sw_getR (dX8_mu.at 13 rfl) fp_X8_26 (S_lt 0 (by decide)) (S_0 nw nx g) rfl rfl ?_
    refine sw_aload_n (dX8_mu.at 14 rfl) rfl rfl ?_
    refine sw_getR (dX8_mu.at 15 rfl) fp_X8_65 (S_lt 0 (by decide)) (S_0 nw nx g) rfl rfl ?_
    refine sw_iload_n (dX8_mu.at 16 rfl) rfl rfl ?_
    refine sw_iload_n (dX8_mu.at 17 rfl) rfl rfl ?_
    exact hv
  · replace hv := hv.2 (bz_n1 q)
    refine sw_bipush (dX8_mu.at 5 rfl) (by decide) ?_
    exact sw_iret (dX8_mu.at 6 rfl) rfl (Nat.le_refl _) (Nat.le_refl _) hv

set_option maxHeartbeats 4000000 in
theorem c_X8_mu {G : GG} {j nw nx gn : Nat} {g : Nat → Sh} {c : Nat → Nat → Int} {post : Option AV → AM → Prop} {P : GD} {T : PT} {x y : Int} (hnw : nw = 21 ∨ nw = 35) (hE : EL c nw P) (hV : GV P) (hT : HT P T) (hR : PR P T c) (p1 : -2147483648 ≤ x ∧ x < 2147483648) (p2 : -2147483648 ≤ y ∧ y < 2147483648) (K : ∀ c2 : Nat → Nat → Int, ((∀ a, a ≠ 5 → a ≠ 6 → c2 a = c a) ∧ PR P T c2) → post (some (vi (q_mu P T x y))) (S nw nx g, 78 + gn, c2)) : SM G (j + 6) mX8_mu [vr (0), vi (x), vi (y)] (S nw nx g, 78 + gn, c) 0 0 post := by
  refine sm_of wX8_mu rfl (Nat.le_of_ble_eq_true rfl) ?_
  have hN60 := GV_N hV
  have hR5 := GV_R hV
  by_cases hv : (0 ≤ x ∧ x < (gN P : Int)) ∧ 0 ≤ y ∧ y < (gN P : Int)
  · obtain ⟨x, rfl⟩ : ∃ n : Nat, x = (n : Int) := ⟨x.toNat, by omega⟩
    obtain ⟨y, rfl⟩ : ∃ n : Nat, y = (n : Int) := ⟨y.toNat, by omega⟩
    have e : q_mu P T ((x : Nat) : Int) ((y : Nat) : Int) = muT P T x y := by
      rw [q_mu, if_pos hv]
      simp only [Int.toNat_natCast]
    rw [e] at K
    refine g_X8_mu_0n hnw hE hV hT hR ?_
    refine ⟨?_, ?_, ⟨fun q => ⟨?_, fun c_1 h_1 => ⟨?_, ?_, ?_⟩⟩, fun q => ?_⟩⟩
    all_goals first | omega | assumption | (exfalso; simp only [decide_eq_true_eq, decide_eq_false_iff_not] at *; omega) | (have K2 := K c_1 ⟨h_1.1, Or.inr h_1.2⟩; rw [muG_T hV h_1.2.2 (by omega) (by omega)]; exact K2)
  · have e : q_mu P T x y = (-2) := by rw [q_mu, if_neg hv]
    rw [e] at K
    refine g_X8_mu_0 hnw hE hV hT hR ?_
    have K := K c ⟨fun _ _ _ => rfl, hR⟩
    refine ⟨?_, ?_, ⟨fun q => ⟨?_, fun c_1 h_1 => ?_⟩, fun q => ?_⟩⟩
    all_goals first | exact K | omega | assumption | (exfalso; simp only [decide_eq_true_eq, decide_eq_false_iff_not] at *; omega)

def hpF (f : Nat → Int) (p : Nat) : Nat → Int
  | 0 => -1
  | k + 1 => if f (p + k) ≠ 0 then (k : Int) else hpF f p k
set_option maxHeartbeats 2000000 in
set_option maxRecDepth 20000 in
theorem g_X4_highestPower_3 {G : GG} {j nw nx gn : Nat} {g : Nat → Sh} {c : Nat → Nat → Int} {post : Option AV → AM → Prop} {v : Nat} {w : Nat} {k : Nat}  (hv : (k < 2147483648) ∧ (((((k : Nat) : Int) < 0) → post (some (vi ((-1)))) (S nw nx g, 78 + gn, c)) ∧ ((¬ (((k : Nat) : Int) < 0)) → (v < 60) ∧ (w < 60) ∧ (k < 2147483648) ∧ ((-2147483648 ≤ (if k < 8 then c 6 ((v * 60 + w) * 8 + k) else 0) ∧ (if k < 8 then c 6 ((v * 60 + w) * 8 + k) else 0) < 2147483648) ∧ ((((if k < 8 then c 6 ((v * 60 + w) * 8 + k) else 0) = 0) → SW G (j + 1) mX4_highestPower 3 [some (vr (5)), some (vi (((v : Nat) : Int))), some (vi (((w : Nat) : Int))), some (vi (((k : Nat) : Int) + (-1)))] [] (S nw nx g, 78 + gn, c) B0 post) ∧ ((¬ ((if k < 8 then c 6 ((v * 60 + w) * 8 + k) else 0) = 0)) → post (some (vi (((k : Nat) : Int)))) (S nw nx g, 78 + gn, c))))))) :
    SW G (j + 1) mX4_highestPower 3 [some (vr (5)), some (vi (((v : Nat) : Int))), some (vi (((w : Nat) : Int))), some (vi (((k : Nat) : Int)))] [] (S nw nx g, 78 + gn, c) B0 post := by
  refine sw_iload_n (dX4_highestPower.at 2 rfl) rfl rfl ?_
  refine sw_if_lt (tgt := 25) (dX4_highestPower.at 3 rfl) (by decide) (nrng hv.1) (fun q => ?_) (fun q => ?_)
  · replace hv := hv.2.1 q
    refine sw_iconst (dX4_highestPower.at 14 rfl) ?_
    exact sw_iret (dX4_highestPower.at 15 rfl) rfl (Nat.le_refl _) (Nat.le_refl _) hv
  · replace hv := hv.2.2 q
    refine sw_aload_n (dX4_highestPower.at 4 rfl) rfl rfl ?_
    refine sw_iload_n (dX4_highestPower.at 5 rfl) rfl rfl ?_
    refine sw_iload_n (dX4_highestPower.at 6 rfl) rfl rfl ?_
    refine sw_iload_n (dX4_highestPower.at 7 rfl) rfl rfl ?_
    refine sw_callV (B' := B0) (As := [vi (((v : Nat) : Int)), vi (((w : Nat) : Int)), vi (((k : Nat) : Int))]) (mc := 0) (ms := 0) (dX4_highestPower.at 8 rfl) lk_X4_33 (S_lt 5 (by decide)) (S_5 nw nx g) rfl rfl (Nat.le_of_ble_eq_true rfl) rfl (Nat.le_refl _) (Nat.le_refl _) ?_
    refine c_X4_number (v := v) (w := w) (k := k) (j := j + 0) hv.1 hv.2.1 hv.2.2.1 ?_
    replace hv := hv.2.2.2
    refine sw_if_eq (tgt := 19) (dX4_highestPower.at 9 rfl) (by decide) hv.1 (fun q => ?_) (fun q => ?_)
    · replace hv := hv.2.1 q
      refine sw_iinc (lo' := [some (vr (5)), some (vi (((v : Nat) : Int))), some (vi (((w : Nat) : Int))), some (vi (((k : Nat) : Int) + (-1)))]) (dX4_highestPower.at 12 rfl) rfl (by decide) rfl ?_
      refine sw_goto (tgt := 3) (dX4_highestPower.at 13 rfl) (by decide) ?_
      exact hv
    · replace hv := hv.2.2 q
      refine sw_iload_n (dX4_highestPower.at 10 rfl) rfl rfl ?_
      exact sw_iret (dX4_highestPower.at 11 rfl) rfl (Nat.le_refl _) (Nat.le_refl _) hv

set_option maxHeartbeats 2000000 in
set_option maxRecDepth 20000 in
theorem g_X4_highestPower_3e {G : GG} {j nw nx gn : Nat} {g : Nat → Sh} {c : Nat → Nat → Int} {post : Option AV → AM → Prop} {v : Nat} {w : Nat}  (hv : post (some (vi ((-1)))) (S nw nx g, 78 + gn, c)) :
    SW G (j + 1) mX4_highestPower 3 [some (vr (5)), some (vi (((v : Nat) : Int))), some (vi (((w : Nat) : Int))), some (vi ((-1)))] [] (S nw nx g, 78 + gn, c) B0 post := by
  refine sw_iload_n (dX4_highestPower.at 2 rfl) rfl rfl ?_
  refine sw_if_lt (tgt := 25) (dX4_highestPower.at 3 rfl) (by decide) (by decide) (fun q => ?_) (fun q => ?_)
  · clear q
    refine sw_iconst (dX4_highestPower.at 14 rfl) ?_
    exact sw_iret (dX4_highestPower.at 15 rfl) rfl (Nat.le_refl _) (Nat.le_refl _) hv
  · exact absurd q (by decide)

set_option maxHeartbeats 2000000 in
theorem lp_X4_highestPower_3 {G : GG} {j nw nx gn : Nat} {g : Nat → Sh} {c : Nat → Nat → Int} {post : Option AV → AM → Prop} {v w : Nat} (hv : v < 60) (hw : w < 60) (hb : ∀ k, k < 8 → -2147483648 ≤ c 6 ((v * 60 + w) * 8 + k) ∧ c 6 ((v * 60 + w) * 8 + k) < 2147483648) : ∀ k : Nat, k ≤ 8 → post (some (vi (hpF (c 6) ((v * 60 + w) * 8) k))) (S nw nx g, 78 + gn, c) → SW G (j + 1) mX4_highestPower 3 [some (vr (5)), some (vi (((v : Nat) : Int))), some (vi (((w : Nat) : Int))), some (vi ((k : Int) - 1))] [] (S nw nx g, 78 + gn, c) B0 post := by
  intro k
  induction k with
  | zero =>
    intro _ K
    have e : (((0 : Nat) : Int) - 1) = (-1) := by omega
    rw [e]
    refine g_X4_highestPower_3e ?_
    exact K
  | succ k ih =>
    intro hk K
    have e : (((k + 1 : Nat) : Int) - 1) = ((k : Nat) : Int) := by omega
    have e2 : ((k : Nat) : Int) + (-1) = (k : Int) - 1 := by omega
    have b := hb k (by omega)
    rw [e]
    rw [hpF] at K
    refine g_X4_highestPower_3 ?_
    rw [e2, if_pos (show k < 8 by omega)]
    refine ⟨?_, ⟨fun q => ?_, fun q => ⟨?_, ?_, ?_, ⟨?_, ⟨fun q => ?_, fun q => ?_⟩⟩⟩⟩⟩
    all_goals first | omega | (exfalso; omega) | (rw [if_pos (by assumption)] at K; exact K) | (rw [if_neg (by omega)] at K; exact ih (by omega) K)

set_option maxHeartbeats 2000000 in
set_option maxRecDepth 20000 in
theorem g_X4_highestPower_0 {G : GG} {j nw nx gn : Nat} {g : Nat → Sh} {c : Nat → Nat → Int} {post : Option AV → AM → Prop} {v : Nat} {w : Nat}  (hv : SW G (j + 1) mX4_highestPower 3 [some (vr (5)), some (vi (((v : Nat) : Int))), some (vi (((w : Nat) : Int))), some (vi (7))] [] (S nw nx g, 78 + gn, c) B0 post) :
    SW G (j + 1) mX4_highestPower 0 [some (vr (5)), some (vi (((v : Nat) : Int))), some (vi (((w : Nat) : Int))), none] [] (S nw nx g, 78 + gn, c) B0 post := by
  refine sw_bipush (dX4_highestPower.at 0 rfl) (by decide) ?_
  refine sw_istore_n (lo' := [some (vr (5)), some (vi (((v : Nat) : Int))), some (vi (((w : Nat) : Int))), some (vi (7))]) (dX4_highestPower.at 1 rfl) rfl (by decide) rfl ?_
  exact hv

set_option maxHeartbeats 2000000 in
theorem c_X4_highestPower {G : GG} {j nw nx gn : Nat} {g : Nat → Sh} {c : Nat → Nat → Int} {post : Option AV → AM → Prop} {v : Nat} {w : Nat} (p1 : v < 60) (p2 : w < 60) (p3 : ∀ k, k < 8 → -2147483648 ≤ c 6 ((v * 60 + w) * 8 + k) ∧ c 6 ((v * 60 + w) * 8 + k) < 2147483648) (K : post (some (vi (hpF (c 6) ((v * 60 + w) * 8) 8))) (S nw nx g, 78 + gn, c)) : SM G (j + 2) mX4_highestPower [vr (5), vi (((v : Nat) : Int)), vi (((w : Nat) : Int))] (S nw nx g, 78 + gn, c) 0 0 post := by
  refine sm_of wX4_highestPower rfl (Nat.le_of_ble_eq_true rfl) ?_
  refine g_X4_highestPower_0  ?_
  exact lp_X4_highestPower_3 p1 p2 p3 8 (by omega) K

theorem hpF_cong {f f2 : Nat → Int} {p p2 : Nat} : ∀ n, (∀ k, k < n → f (p + k) = f2 (p2 + k)) → hpF f p n = hpF f2 p2 n := by
  intro n
  induction n with
  | zero => intro _; rfl
  | succ n ih => intro h; rw [hpF, hpF, h n (by omega), ih (fun k hk => h k (by omega))]
theorem hpF_lt (f : Nat → Int) (p : Nat) : ∀ n, -1 ≤ hpF f p n ∧ hpF f p n < (n : Int) := by
  intro n
  induction n with
  | zero => rw [hpF]; omega
  | succ n ih =>
    rw [hpF]
    split <;> omega
def hpT (T : PT) (v w : Nat) : Int := hpF (T v w) 0 8
theorem hp_T {P : GD} {T : PT} {f : Nat → Int} (h : AT P T (gN P) f) {v w : Nat} (hv : v < gN P) (hw : w < gN P) : hpF f ((v * 60 + w) * 8) 8 = hpT T v w := hpF_cong 8 (fun k hk => by rw [Nat.zero_add]; exact h v w k hv hw hk)
theorem AT_rng {P : GD} {T : PT} {f : Nat → Int} (hT : HT P T) (h : AT P T (gN P) f) {v w : Nat} (hv : v < gN P) (hw : w < gN P) : ∀ k, k < 8 → -2147483648 ≤ f ((v * 60 + w) * 8 + k) ∧ f ((v * 60 + w) * 8 + k) < 2147483648 := by
  intro k hk
  have := hT.2.2 v w k hv hw hk
  rw [h v w k hv hw hk]
  omega
def q_degree (P : GD) (T : PT) (x y : Int) : Int := if (0 ≤ x ∧ x < (gN P : Int)) ∧ 0 ≤ y ∧ y < (gN P : Int) then hpT T x.toNat y.toNat else (-2)
set_option maxHeartbeats 2000000 in
set_option maxRecDepth 20000 in
theorem g_X8_degree_0n {G : GG} {j nw nx gn : Nat} {g : Nat → Sh} {c : Nat → Nat → Int} {post : Option AV → AM → Prop} {x : Nat} {y : Nat} {P : GD} {T : PT} (hnw : nw = 21 ∨ nw = 35) (hE : EL c nw P) (hV : GV P) (hT : HT P T) (hR : PR P T c)  (hv : (-2147483648 ≤ ((x : Nat) : Int) ∧ ((x : Nat) : Int) < 2147483648) ∧ (-2147483648 ≤ ((y : Nat) : Int) ∧ ((y : Nat) : Int) < 2147483648) ∧ ((((decide ((0 ≤ ((x : Nat) : Int) ∧ ((x : Nat) : Int) < (gN P : Int)) ∧ 0 ≤ ((y : Nat) : Int) ∧ ((y : Nat) : Int) < (gN P : Int))) = true) → (PR P T c) ∧ (∀ c_1 : Nat → Nat → Int, ((∀ a, a ≠ 5 → a ≠ 6 → c_1 a = c a) ∧ c_1 5 1 = 1 ∧ AT P T (gN P) (c_1 6)) → (x < 60) ∧ (y < 60) ∧ (∀ k, k < 8 → -2147483648 ≤ c_1 6 ((x * 60 + y) * 8 + k) ∧ c_1 6 ((x * 60 + y) * 8 + k) < 2147483648) ∧ (post (some (vi (hpF (c_1 6) ((x * 60 + y) * 8) 8))) (S nw nx g, 78 + gn, c_1)))) ∧ (((decide ((0 ≤ ((x : Nat) : Int) ∧ ((x : Nat) : Int) < (gN P : Int)) ∧ 0 ≤ ((y : Nat) : Int) ∧ ((y : Nat) : Int) < (gN P : Int))) = false) → post (some (vi ((-2)))) (S nw nx g, 78 + gn, c)))) :
    SW G (j + 5) mX8_degree 0 [some (vr (0)), some (vi (((x : Nat) : Int))), some (vi (((y : Nat) : Int)))] [] (S nw nx g, 78 + gn, c) B0 post := by
  refine sw_aload_n (dX8_degree.at 0 rfl) rfl rfl ?_
  refine sw_iload_n (dX8_degree.at 1 rfl) rfl rfl ?_
  refine sw_iload_n (dX8_degree.at 2 rfl) rfl rfl ?_
  refine sw_callV (B' := B0) (As := [vi (((x : Nat) : Int)), vi (((y : Nat) : Int))]) (mc := 0) (ms := 0) (dX8_degree.at 3 rfl) lk_X8_157 (S_lt 0 (by decide)) (S_0 nw nx g) rfl rfl (Nat.le_of_ble_eq_true rfl) rfl (Nat.le_refl _) (Nat.le_refl _) ?_
  refine c_X8_arePair (x := ((x : Nat) : Int)) (y := ((y : Nat) : Int)) (j := j + 3) hnw hE hV hv.1 hv.2.1 ?_
  replace hv := hv.2.2
  refine sw_if_ne (tgt := 12) (dX8_degree.at 4 rfl) (by decide) (bz_rng _) (fun q => ?_) (fun q => ?_)
  · replace hv := hv.1 (bz_1 q)
    refine sw_aload_n (dX8_degree.at 7 rfl) rfl rfl ?_
    refine sw_getR (dX8_degree.at 8 rfl) fp_X8_26 (S_lt 0 (by decide)) (S_0 nw nx g) rfl rfl ?_
    refine sw_aload_n (dX8_degree.at 9 rfl) rfl rfl ?_
    refine sw_getR (dX8_degree.at 10 rfl) fp_X8_65 (S_lt 0 (by decide)) (S_0 nw nx g) rfl rfl ?_
    refine sw_callV (B' := B0) (As := [vr (nw)]) (mc := 0) (ms := 0) (dX8_degree.at 11 rfl) lk_X8_204 (S_lt 5 (by decide)) (S_5 nw nx g) rfl rfl (Nat.le_of_ble_eq_true rfl) rfl (Nat.le_refl _) (Nat.le_refl _) ?_
    refine c_X4_prepare (e := nw) (j := j + 0) hnw hE hV hT hv.1 (fun c_1 h_1 => ?_)
    replace hv := hv.2 c_1 h_1
    refine sw_aload_n (dX8_degree.at 12 rfl) rfl rfl ?_
    refine sw_getR (dX8_degree.at 13 rfl) fp_X8_26 (S_lt 0 (by decide)) (S_0 nw nx g) rfl rfl ?_
    refine sw_iload_n (dX8_degree.at 14 rfl) rfl rfl ?_
    refine sw_iload_n (dX8_degree.at 15 rfl) rfl rfl ?_
    refine sw_callV (B' := B0) (As := [vi (((x : Nat) : Int)), vi (((y : Nat) : Int))]) (mc := 0) (ms := 0) (dX8_degree.at 16 rfl) lk_X8_211 (S_lt 5 (by decide)) (S_5 nw nx g) rfl rfl (Nat.le_of_ble_eq_true rfl) rfl (Nat.le_refl _) (Nat.le_refl _) ?_
    refine c_X4_highestPower (v := x) (w := y) (j := j + 3) hv.1 hv.2.1 hv.2.2.1 ?_
    replace hv := hv.2.2.2
    exact sw_iret (dX8_degree.at 17 rfl) rfl (Nat.le_refl _) (Nat.le_refl _) hv
  · replace hv := hv.2 (bz_n1 q)
    refine sw_bipush (dX8_degree.at 5 rfl) (by decide) ?_
    exact sw_iret (dX8_degree.at 6 rfl) rfl (Nat.le_refl _) (Nat.le_refl _) hv

set_option maxHeartbeats 2000000 in
set_option maxRecDepth 20000 in
theorem g_X8_degree_0 {G : GG} {j nw nx gn : Nat} {g : Nat → Sh} {c : Nat → Nat → Int} {post : Option AV → AM → Prop} {x : Int} {y : Int} {P : GD} {T : PT} (hnw : nw = 21 ∨ nw = 35) (hE : EL c nw P) (hV : GV P) (hT : HT P T) (hR : PR P T c)  (hv : (-2147483648 ≤ x ∧ x < 2147483648) ∧ (-2147483648 ≤ y ∧ y < 2147483648) ∧ ((((decide ((0 ≤ x ∧ x < (gN P : Int)) ∧ 0 ≤ y ∧ y < (gN P : Int))) = true) → (PR P T c) ∧ (∀ c_1 : Nat → Nat → Int, ((∀ a, a ≠ 5 → a ≠ 6 → c_1 a = c a) ∧ c_1 5 1 = 1 ∧ AT P T (gN P) (c_1 6)) → SW G (j + 5) mX8_degree 29 [some (vr (0)), some (vi (x)), some (vi (y))] [vi (y), vi (x), vr (5)] (S nw nx g, 78 + gn, c_1) B0 post)) ∧ (((decide ((0 ≤ x ∧ x < (gN P : Int)) ∧ 0 ≤ y ∧ y < (gN P : Int))) = false) → post (some (vi ((-2)))) (S nw nx g, 78 + gn, c)))) :
    SW G (j + 5) mX8_degree 0 [some (vr (0)), some (vi (x)), some (vi (y))] [] (S nw nx g, 78 + gn, c) B0 post := by
  refine sw_aload_n (dX8_degree.at 0 rfl) rfl rfl ?_
  refine sw_iload_n (dX8_degree.at 1 rfl) rfl rfl ?_
  refine sw_iload_n (dX8_degree.at 2 rfl) rfl rfl ?_
  refine sw_callV (B' := B0) (As := [vi (x), vi (y)]) (mc := 0) (ms := 0) (dX8_degree.at 3 rfl) lk_X8_157 (S_lt 0 (by decide)) (S_0 nw nx g) rfl rfl (Nat.le_of_ble_eq_true rfl) rfl (Nat.le_refl _) (Nat.le_refl _) ?_
  refine c_X8_arePair (x := x) (y := y) (j := j + 3) hnw hE hV hv.1 hv.2.1 ?_
  replace hv := hv.2.2
  refine sw_if_ne (tgt := 12) (dX8_degree.at 4 rfl) (by decide) (bz_rng _) (fun q => ?_) (fun q => ?_)
  · replace hv := hv.1 (bz_1 q)
    refine sw_aload_n (dX8_degree.at 7 rfl) rfl rfl ?_
    refine sw_getR (dX8_degree.at 8 rfl) fp_X8_26 (S_lt 0 (by decide)) (S_0 nw nx g) rfl rfl ?_
    refine sw_aload_n (dX8_degree.at 9 rfl) rfl rfl ?_
    refine sw_getR (dX8_degree.at 10 rfl) fp_X8_65 (S_lt 0 (by decide)) (S_0 nw nx g) rfl rfl ?_
    refine sw_callV (B' := B0) (As := [vr (nw)]) (mc := 0) (ms := 0) (dX8_degree.at 11 rfl) lk_X8_204 (S_lt 5 (by decide)) (S_5 nw nx g) rfl rfl (Nat.le_of_ble_eq_true rfl) rfl (Nat.le_refl _) (Nat.le_refl _) ?_
    refine c_X4_prepare (e := nw) (j := j + 0) hnw hE hV hT hv.1 (fun c_1 h_1 => ?_)
    replace hv := hv.2 c_1 h_1
    refine sw_aload_n (dX8_degree.at 12 rfl) rfl rfl ?_
    refine sw_getR (dX8_degree.at 13 rfl) fp_X8_26 (S_lt 0 (by decide)) (S_0 nw nx g) rfl rfl ?_
    refine sw_iload_n (dX8_degree.at 14 rfl) rfl rfl ?_
    refine sw_iload_n (dX8_degree.at 15 rfl) rfl rfl ?_
    exact hv
  · replace hv := hv.2 (bz_n1 q)
    refine sw_bipush (dX8_degree.at 5 rfl) (by decide) ?_
    exact sw_iret (dX8_degree.at 6 rfl) rfl (Nat.le_refl _) (Nat.le_refl _) hv

set_option maxHeartbeats 4000000 in
theorem c_X8_degree {G : GG} {j nw nx gn : Nat} {g : Nat → Sh} {c : Nat → Nat → Int} {post : Option AV → AM → Prop} {P : GD} {T : PT} {x y : Int} (hnw : nw = 21 ∨ nw = 35) (hE : EL c nw P) (hV : GV P) (hT : HT P T) (hR : PR P T c) (p1 : -2147483648 ≤ x ∧ x < 2147483648) (p2 : -2147483648 ≤ y ∧ y < 2147483648) (K : ∀ c2 : Nat → Nat → Int, ((∀ a, a ≠ 5 → a ≠ 6 → c2 a = c a) ∧ PR P T c2) → post (some (vi (q_degree P T x y))) (S nw nx g, 78 + gn, c2)) : SM G (j + 6) mX8_degree [vr (0), vi (x), vi (y)] (S nw nx g, 78 + gn, c) 0 0 post := by
  refine sm_of wX8_degree rfl (Nat.le_of_ble_eq_true rfl) ?_
  have hN60 := GV_N hV
  have hR5 := GV_R hV
  by_cases hv : (0 ≤ x ∧ x < (gN P : Int)) ∧ 0 ≤ y ∧ y < (gN P : Int)
  · obtain ⟨x, rfl⟩ : ∃ n : Nat, x = (n : Int) := ⟨x.toNat, by omega⟩
    obtain ⟨y, rfl⟩ : ∃ n : Nat, y = (n : Int) := ⟨y.toNat, by omega⟩
    have e : q_degree P T ((x : Nat) : Int) ((y : Nat) : Int) = hpT T x y := by
      rw [q_degree, if_pos hv]
      simp only [Int.toNat_natCast]
    rw [e] at K
    refine g_X8_degree_0n hnw hE hV hT hR ?_
    refine ⟨?_, ?_, ⟨fun q => ⟨?_, fun c_1 h_1 => ⟨?_, ?_, ?_, ?_⟩⟩, fun q => ?_⟩⟩
    all_goals first | omega | assumption | (exfalso; simp only [decide_eq_true_eq, decide_eq_false_iff_not] at *; omega) | exact AT_rng hT h_1.2.2 (by omega) (by omega) | (have K2 := K c_1 ⟨h_1.1, Or.inr h_1.2⟩; rw [hp_T h_1.2.2 (by omega) (by omega)]; exact K2)
  · have e : q_degree P T x y = (-2) := by rw [q_degree, if_neg hv]
    rw [e] at K
    refine g_X8_degree_0 hnw hE hV hT hR ?_
    have K := K c ⟨fun _ _ _ => rfl, hR⟩
    refine ⟨?_, ?_, ⟨fun q => ⟨?_, fun c_1 h_1 => ?_⟩, fun q => ?_⟩⟩
    all_goals first | exact K | omega | assumption | (exfalso; simp only [decide_eq_true_eq, decide_eq_false_iff_not] at *; omega)

set_option maxHeartbeats 2000000 in
set_option maxRecDepth 20000 in
theorem g_X4_isCrooked_0 {G : GG} {j nw nx gn : Nat} {g : Nat → Sh} {c : Nat → Nat → Int} {post : Option AV → AM → Prop} {v : Nat} {w : Nat}  (hv : (v < 60) ∧ (w < 60) ∧ (∀ k, k < 8 → -2147483648 ≤ c 6 ((v * 60 + w) * 8 + k) ∧ c 6 ((v * 60 + w) * 8 + k) < 2147483648) ∧ ((-2147483648 ≤ hpF (c 6) ((v * 60 + w) * 8) 8 ∧ hpF (c 6) ((v * 60 + w) * 8) 8 < 2147483648) ∧ (((hpF (c 6) ((v * 60 + w) * 8) 8 ≤ 0) → post (some (vi (0))) (S nw nx g, 78 + gn, c)) ∧ ((¬ (hpF (c 6) ((v * 60 + w) * 8) 8 ≤ 0)) → post (some (vi (1))) (S nw nx g, 78 + gn, c))))) :
    SW G (j + 2) mX4_isCrooked 0 [some (vr (5)), some (vi (((v : Nat) : Int))), some (vi (((w : Nat) : Int)))] [] (S nw nx g, 78 + gn, c) B0 post := by
  refine sw_aload_n (dX4_isCrooked.at 0 rfl) rfl rfl ?_
  refine sw_iload_n (dX4_isCrooked.at 1 rfl) rfl rfl ?_
  refine sw_iload_n (dX4_isCrooked.at 2 rfl) rfl rfl ?_
  refine sw_callV (B' := B0) (As := [vi (((v : Nat) : Int)), vi (((w : Nat) : Int))]) (mc := 0) (ms := 0) (dX4_isCrooked.at 3 rfl) lk_X4_40 (S_lt 5 (by decide)) (S_5 nw nx g) rfl rfl (Nat.le_of_ble_eq_true rfl) rfl (Nat.le_refl _) (Nat.le_refl _) ?_
  refine c_X4_highestPower (v := v) (w := w) (j := j + 0) hv.1 hv.2.1 hv.2.2.1 ?_
  replace hv := hv.2.2.2
  refine sw_if_le (tgt := 13) (dX4_isCrooked.at 4 rfl) (by decide) hv.1 (fun q => ?_) (fun q => ?_)
  · replace hv := hv.2.1 q
    refine sw_iconst (dX4_isCrooked.at 7 rfl) ?_
    exact sw_zret (dX4_isCrooked.at 8 rfl) rfl (by decide) (Nat.le_refl _) (Nat.le_refl _) hv
  · replace hv := hv.2.2 q
    refine sw_iconst (dX4_isCrooked.at 5 rfl) ?_
    refine sw_goto (tgt := 14) (dX4_isCrooked.at 6 rfl) (by decide) ?_
    exact sw_zret (dX4_isCrooked.at 8 rfl) rfl (by decide) (Nat.le_refl _) (Nat.le_refl _) hv

set_option maxHeartbeats 2000000 in
theorem c_X4_isCrooked {G : GG} {j nw nx gn : Nat} {g : Nat → Sh} {c : Nat → Nat → Int} {post : Option AV → AM → Prop} {v : Nat} {w : Nat} (p1 : v < 60) (p2 : w < 60) (p3 : ∀ k, k < 8 → -2147483648 ≤ c 6 ((v * 60 + w) * 8 + k) ∧ c 6 ((v * 60 + w) * 8 + k) < 2147483648) (K : post (some (vi (bz (decide (0 < hpF (c 6) ((v * 60 + w) * 8) 8))))) (S nw nx g, 78 + gn, c)) : SM G (j + 3) mX4_isCrooked [vr (5), vi (((v : Nat) : Int)), vi (((w : Nat) : Int))] (S nw nx g, 78 + gn, c) 0 0 post := by
  refine sm_of wX4_isCrooked rfl (Nat.le_of_ble_eq_true rfl) ?_
  refine g_X4_isCrooked_0  ?_
  have h9 := hpF_lt (c 6) ((v * 60 + w) * 8) 8
  refine ⟨?_, ?_, ?_, ⟨?_, ⟨fun q => ?_, fun q => ?_⟩⟩⟩
  all_goals first | assumption | omega | (have e9 : decide (0 < hpF (c 6) ((v * 60 + w) * 8) 8) = true := (by simp only [decide_eq_true_eq]; omega); rw [e9] at K; exact K) | (have e9 : decide (0 < hpF (c 6) ((v * 60 + w) * 8) 8) = false := (by simp only [decide_eq_false_iff_not]; omega); rw [e9] at K; exact K)

