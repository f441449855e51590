def cN (f : Nat → Nat) : Nat → Int := fun i => ((f i : Nat) : Int)
def uN (f : Nat → Nat) (k v : Nat) : Nat → Nat := fun i => if i = k then v else f i
theorem uN_eq (f : Nat → Nat) (k v : Nat) : uN f k v k = v := by simp [uN]
theorem uN_ne {f : Nat → Nat} {k v i : Nat} (h : i ≠ k) : uN f k v i = f i := by simp [uN, h]
theorem wr_upN (c : Nat → Nat → Int) (a : Nat) (f : Nat → Nat) (k v : Nat) : up2 (wr c a (cN f)) a k ((v : Nat) : Int) = wr c a (cN (uN f k v)) := by
  rw [wr_up]
  congr 1
  funext i
  simp only [u1, cN, uN]
  split <;> rfl
theorem wr_up_in (c : Nat → Nat → Int) (b : Nat) (G : Nat → Int) (a k : Nat) (z : Int) (h : a ≠ b) : up2 (wr c b G) a k z = wr (up2 c a k z) b G := by
  funext i q
  simp only [up2, wr]
  by_cases e : i = b
  · have : i ≠ a := fun q => h (q.symm.trans e)
    simp [e, Ne.symm h]
  · simp [e, up2]
/-- all values of a row of longs are sets -/
def BF (n : Nat) (f : Nat → Nat) : Prop := ∀ i, i < 180 → i % 60 < n → f i < 2 ^ 60
theorem BF_u {n : Nat} {f : Nat → Nat} (h : BF n f) {k v : Nat} (hv : v < 2 ^ 60) : BF n (uN f k v) := by
  intro i hi hn
  simp only [uN]
  split
  · exact hv
  · exact h i hi hn
theorem p60 {b : Nat} (h : b < 60) : 1 * 2 ^ b < 2 ^ 60 := by rw [Nat.one_mul]; exact Nat.pow_lt_pow_right (by decide) h
def eb (f : Nat → Nat) (i b : Nat) : Nat → Nat := uN f i (f i ||| 1 * 2 ^ b)
def aE (P : GD) (f : Nat → Nat) (a b : Nat) : Nat → Nat :=
  let f1 := if andn (gF P b) (gF P a) = 0 then f else eb (eb f (0 + a) b) (120 + a) b
  if andn (gE P b) (gE P a) = 0 then f1 else eb (eb f1 (60 + a) b) (120 + a) b
theorem eb_BF {n : Nat} {f : Nat → Nat} (h : BF n f) {i b : Nat} (hi : i < 180) (hn : i % 60 < n) (hb : b < 60) : BF n (eb f i b) := BF_u h (Nat.or_lt_two_pow (h i hi hn) (p60 hb))
theorem aE_BF {P : GD} {f : Nat → Nat} {n a b : Nat} (h : BF n f) (hn : n ≤ 60) (ha : a < n) (hb : b < n) : BF n (aE P f a b) := by
  simp only [aE]
  have h1 : BF n (if andn (gF P b) (gF P a) = 0 then f else eb (eb f (0 + a) b) (120 + a) b) := by
    split
    · exact h
    · exact eb_BF (eb_BF h (by omega) (by omega) (by omega)) (by omega) (by omega) (by omega)
  split
  · exact h1
  · exact eb_BF (eb_BF h1 (by omega) (by omega) (by omega)) (by omega) (by omega) (by omega)
def edC (P : GD) (kd a b : Nat) : Bool := (decide (kd ≠ 1) && decide (andn (gF P b) (gF P a) ≠ 0)) || (decide (kd ≠ 0) && decide (andn (gE P b) (gE P a) ≠ 0))
theorem eb_bit {f : Nat → Nat} {i b x t : Nat} : (eb f i b x).testBit t = ((f x).testBit t || (decide (x = i) && decide (t = b))) := by
  simp only [eb, uN]
  by_cases h : x = i
  · subst h
    rw [if_pos rfl, Nat.testBit_or, Nat.one_mul]
    by_cases e : t = b
    · subst e; simp [Nat.testBit_two_pow_self]
    · rw [Nat.testBit_two_pow_of_ne (Ne.symm e)]; simp [e]
  · simp [h]
theorem aE_bit {P : GD} {f : Nat → Nat} {a b kd x t : Nat} (hk : kd < 3) (hx : x < 60) (ha : a < 60) : (aE P f a b (kd * 60 + x)).testBit t = ((f (kd * 60 + x)).testBit t || (decide (x = a) && decide (t = b) && edC P kd a b)) := by
  have hd : ∀ q, q < 3 → decide (kd * 60 + x = q * 60 + a) = (decide (kd = q) && decide (x = a)) := by
    intro q hq
    rw [← Bool.decide_and]
    congr 1
    exact propext ⟨fun h => ⟨by omega, by omega⟩, fun h => by omega⟩
  have e0 := hd 0 (by omega)
  have e1 := hd 1 (by omega)
  have e2 := hd 2 (by omega)
  simp only [Nat.zero_mul, Nat.one_mul, show 2 * 60 = 120 from rfl] at e0 e1 e2
  simp only [aE, edC]
  by_cases hF : andn (gF P b) (gF P a) = 0
  · by_cases hE : andn (gE P b) (gE P a) = 0
    · simp [hF, hE]
    · simp only [hF, hE, if_true, if_false, eb_bit, e1, e2]
      have : kd = 0 ∨ kd = 1 ∨ kd = 2 := by omega
      rcases this with h | h | h <;> subst h <;> simp [hF, hE]
  · by_cases hE : andn (gE P b) (gE P a) = 0
    · simp only [hF, hE, if_true, if_false, eb_bit, e0, e2]
      have : kd = 0 ∨ kd = 1 ∨ kd = 2 := by omega
      rcases this with h | h | h <;> subst h <;> simp [hF, hE]
    · simp only [hF, hE, if_false, eb_bit, e0, e1, e2]
      have : kd = 0 ∨ kd = 1 ∨ kd = 2 := by omega
      rcases this with h | h | h <;> subst h <;> simp [hF, hE] <;> (cases (f _).testBit t <;> cases decide (x = a) <;> cases decide (t = b) <;> rfl)
set_option maxHeartbeats 2000000 in
set_option maxRecDepth 20000 in
theorem g_X0_addEdge_0 {G : GG} {j nw nx gn : Nat} {g : Nat → Sh} {c : Nat → Nat → Int} {post : Option AV → AM → Prop} {e : Nat} {a : Nat} {b : Nat} (he : e = 21 ∨ e = 35) {P : GD} {f : Nat → Nat} (hE : EL c e P) (hV : GV P)  (hv : (b < gN P) ∧ (0 < 2) ∧ ((a < gN P) ∧ (0 < 2) ∧ ((andn (if 0 = 0 then gF P b else gE P b) (if 0 = 0 then gF P a else gE P a) < 2147483648) ∧ (((andn (if 0 = 0 then gF P b else gE P b) (if 0 = 0 then gF P a else gE P a) = 0) → (b < gN P) ∧ (1 < 2) ∧ ((a < gN P) ∧ (1 < 2) ∧ ((andn (if 1 = 0 then gF P b else gE P b) (if 1 = 0 then gF P a else gE P a) < 2147483648) ∧ (((andn (if 1 = 0 then gF P b else gE P b) (if 1 = 0 then gF P a else gE P a) = 0) → post none (S nw nx g, 78 + gn, (wr c 8 (cN f)))) ∧ ((¬ (andn (if 1 = 0 then gF P b else gE P b) (if 1 = 0 then gF P a else gE P a) = 0)) → (60 + a < 180) ∧ ((b < 64) ∧ ((60 + a < 180) ∧ ((120 + a < 180) ∧ ((b < 64) ∧ ((120 + a < 180) ∧ (post none (S nw nx g, 78 + gn, (wr c 8 (cN (uN (uN f (60 + a) ((f (60 + a)) ||| (1 * 2 ^ b))) (120 + a) (((uN f (60 + a) ((f (60 + a)) ||| (1 * 2 ^ b))) (120 + a)) ||| (1 * 2 ^ b))))))))))))))))) ∧ ((¬ (andn (if 0 = 0 then gF P b else gE P b) (if 0 = 0 then gF P a else gE P a) = 0)) → (0 + a < 180) ∧ ((b < 64) ∧ ((0 + a < 180) ∧ ((120 + a < 180) ∧ ((b < 64) ∧ ((120 + a < 180) ∧ ((b < gN P) ∧ (1 < 2) ∧ ((a < gN P) ∧ (1 < 2) ∧ ((andn (if 1 = 0 then gF P b else gE P b) (if 1 = 0 then gF P a else gE P a) < 2147483648) ∧ (((andn (if 1 = 0 then gF P b else gE P b) (if 1 = 0 then gF P a else gE P a) = 0) → post none (S nw nx g, 78 + gn, (wr c 8 (cN (uN (uN f (0 + a) ((f (0 + a)) ||| (1 * 2 ^ b))) (120 + a) (((uN f (0 + a) ((f (0 + a)) ||| (1 * 2 ^ b))) (120 + a)) ||| (1 * 2 ^ b))))))) ∧ ((¬ (andn (if 1 = 0 then gF P b else gE P b) (if 1 = 0 then gF P a else gE P a) = 0)) → (60 + a < 180) ∧ ((b < 64) ∧ ((60 + a < 180) ∧ ((120 + a < 180) ∧ ((b < 64) ∧ ((120 + a < 180) ∧ (post none (S nw nx g, 78 + gn, (wr c 8 (cN (uN (uN (uN (uN f (0 + a) ((f (0 + a)) ||| (1 * 2 ^ b))) (120 + a) (((uN f (0 + a) ((f (0 + a)) ||| (1 * 2 ^ b))) (120 + a)) ||| (1 * 2 ^ b))) (60 + a) (((uN (uN f (0 + a) ((f (0 + a)) ||| (1 * 2 ^ b))) (120 + a) (((uN f (0 + a) ((f (0 + a)) ||| (1 * 2 ^ b))) (120 + a)) ||| (1 * 2 ^ b))) (60 + a)) ||| (1 * 2 ^ b))) (120 + a) (((uN (uN (uN f (0 + a) ((f (0 + a)) ||| (1 * 2 ^ b))) (120 + a) (((uN f (0 + a) ((f (0 + a)) ||| (1 * 2 ^ b))) (120 + a)) ||| (1 * 2 ^ b))) (60 + a) (((uN (uN f (0 + a) ((f (0 + a)) ||| (1 * 2 ^ b))) (120 + a) (((uN f (0 + a) ((f (0 + a)) ||| (1 * 2 ^ b))) (120 + a)) ||| (1 * 2 ^ b))) (60 + a)) ||| (1 * 2 ^ b))) (120 + a)) ||| (1 * 2 ^ b))))))))))))))))))))))))))) :
    SW G (j + 1) mX0_addEdge 0 [some (vr (7)), some (vr (e)), some (vi (((a : Nat) : Int))), some (vi (((b : Nat) : Int))), none] [] (S nw nx g, 78 + gn, (wr c 8 (cN f))) B0 post := by
  refine sw_iconst (dX0_addEdge.at 0 rfl) ?_
  refine sw_istore (lo' := [some (vr (7)), some (vr (e)), some (vi (((a : Nat) : Int))), some (vi (((b : Nat) : Int))), some (vi (0))]) (dX0_addEdge.at 1 rfl) (by decide) rfl ?_
  refine sw_iload (dX0_addEdge.at 2 rfl) rfl ?_
  refine sw_iconst (dX0_addEdge.at 3 rfl) ?_
  refine sw_icmp_ge (tgt := 68) (dX0_addEdge.at 4 rfl) (by decide) (by decide) (by decide) (fun q => ?_) (fun q => ?_)
  · exact absurd q (by decide)
  · clear q
    refine sw_aload_n (dX0_addEdge.at 5 rfl) rfl rfl ?_
    refine sw_iload_n (dX0_addEdge.at 6 rfl) rfl rfl ?_
    refine sw_iload (dX0_addEdge.at 7 rfl) rfl ?_
    refine sw_callV (B' := B0) (As := [vi (((b : Nat) : Int)), vi (0)]) (mc := 0) (ms := 0) (dX0_addEdge.at 8 rfl) lk_X0_47 (S_e_lt he) (S_e he) rfl rfl (Nat.le_of_ble_eq_true rfl) rfl (Nat.le_refl _) (Nat.le_refl _) ?_
    refine c_X1_descentsOn (e := e) (x := b) (sd := 0) (j := j + 0) he (EL_wr (a := 8) (f := (cN f)) hE he (by decide)) hV hv.1 hv.2.1 ?_
    replace hv := hv.2.2
    refine sw_aload_n (dX0_addEdge.at 9 rfl) rfl rfl ?_
    refine sw_iload_n (dX0_addEdge.at 10 rfl) rfl rfl ?_
    refine sw_iload (dX0_addEdge.at 11 rfl) rfl ?_
    refine sw_callV (B' := B0) (As := [vi (((a : Nat) : Int)), vi (0)]) (mc := 0) (ms := 0) (dX0_addEdge.at 12 rfl) lk_X0_47 (S_e_lt he) (S_e he) rfl rfl (Nat.le_of_ble_eq_true rfl) rfl (Nat.le_refl _) (Nat.le_refl _) ?_
    refine c_X1_descentsOn (e := e) (x := a) (sd := 0) (j := j + 0) he (EL_wr (a := 8) (f := (cN f)) hE he (by decide)) hV hv.1 hv.2.1 ?_
    replace hv := hv.2.2
    refine sw_iconst (dX0_addEdge.at 13 rfl) ?_
    refine sw_ixor (dX0_addEdge.at 14 rfl) ?_
    refine sw_andC (if 0 = 0 then gF P b else gE P b) (if 0 = 0 then gF P a else gE P a) (dX0_addEdge.at 15 rfl) ?_
    refine sw_ifN_eq (andn (if 0 = 0 then gF P b else gE P b) (if 0 = 0 then gF P a else gE P a)) (tgt := 62) (dX0_addEdge.at 16 rfl) (by decide) hv.1 (fun q => ?_) (fun q => ?_)
    · replace hv := hv.2.1 q
      refine sw_iinc (lo' := [some (vr (7)), some (vr (e)), some (vi (((a : Nat) : Int))), some (vi (((b : Nat) : Int))), some (vi (1))]) (dX0_addEdge.at 43 rfl) rfl (by decide) rfl ?_
      refine sw_goto (tgt := 3) (dX0_addEdge.at 44 rfl) (by decide) ?_
      refine sw_iload (dX0_addEdge.at 2 rfl) rfl ?_
      refine sw_iconst (dX0_addEdge.at 3 rfl) ?_
      refine sw_icmp_ge (tgt := 68) (dX0_addEdge.at 4 rfl) (by decide) (by decide) (by decide) (fun q => ?_) (fun q => ?_)
      · exact absurd q (by decide)
      · clear q
        refine sw_aload_n (dX0_addEdge.at 5 rfl) rfl rfl ?_
        refine sw_iload_n (dX0_addEdge.at 6 rfl) rfl rfl ?_
        refine sw_iload (dX0_addEdge.at 7 rfl) rfl ?_
        refine sw_callV (B' := B0) (As := [vi (((b : Nat) : Int)), vi (1)]) (mc := 0) (ms := 0) (dX0_addEdge.at 8 rfl) lk_X0_47 (S_e_lt he) (S_e he) rfl rfl (Nat.le_of_ble_eq_true rfl) rfl (Nat.le_refl _) (Nat.le_refl _) ?_
        refine c_X1_descentsOn (e := e) (x := b) (sd := 1) (j := j + 0) he (EL_wr (a := 8) (f := (cN f)) hE he (by decide)) hV hv.1 hv.2.1 ?_
        replace hv := hv.2.2
        refine sw_aload_n (dX0_addEdge.at 9 rfl) rfl rfl ?_
        refine sw_iload_n (dX0_addEdge.at 10 rfl) rfl rfl ?_
        refine sw_iload (dX0_addEdge.at 11 rfl) rfl ?_
        refine sw_callV (B' := B0) (As := [vi (((a : Nat) : Int)), vi (1)]) (mc := 0) (ms := 0) (dX0_addEdge.at 12 rfl) lk_X0_47 (S_e_lt he) (S_e he) rfl rfl (Nat.le_of_ble_eq_true rfl) rfl (Nat.le_refl _) (Nat.le_refl _) ?_
        refine c_X1_descentsOn (e := e) (x := a) (sd := 1) (j := j + 0) he (EL_wr (a := 8) (f := (cN f)) hE he (by decide)) hV hv.1 hv.2.1 ?_
        replace hv := hv.2.2
        refine sw_iconst (dX0_addEdge.at 13 rfl) ?_
        refine sw_ixor (dX0_addEdge.at 14 rfl) ?_
        refine sw_andC (if 1 = 0 then gF P b else gE P b) (if 1 = 0 then gF P a else gE P a) (dX0_addEdge.at 15 rfl) ?_
        refine sw_ifN_eq (andn (if 1 = 0 then gF P b else gE P b) (if 1 = 0 then gF P a else gE P a)) (tgt := 62) (dX0_addEdge.at 16 rfl) (by decide) hv.1 (fun q => ?_) (fun q => ?_)
        · replace hv := hv.2.1 q
          refine sw_iinc (lo' := [some (vr (7)), some (vr (e)), some (vi (((a : Nat) : Int))), some (vi (((b : Nat) : Int))), some (vi (2))]) (dX0_addEdge.at 43 rfl) rfl (by decide) rfl ?_
          refine sw_goto (tgt := 3) (dX0_addEdge.at 44 rfl) (by decide) ?_
          refine sw_iload (dX0_addEdge.at 2 rfl) rfl ?_
          refine sw_iconst (dX0_addEdge.at 3 rfl) ?_
          refine sw_icmp_ge (tgt := 68) (dX0_addEdge.at 4 rfl) (by decide) (by decide) (by decide) (fun q => ?_) (fun q => ?_)
          · clear q
            exact sw_vret (dX0_addEdge.at 45 rfl) rfl (Nat.le_refl _) (Nat.le_refl _) hv
          · exact absurd q (by decide)
        · replace hv := hv.2.2 q
          refine sw_aload_n (dX0_addEdge.at 17 rfl) rfl rfl ?_
          refine sw_getR (dX0_addEdge.at 18 rfl) fp_X0_9 (S_lt 7 (by decide)) (S_7 nw nx g) rfl rfl ?_
          refine sw_iload (dX0_addEdge.at 19 rfl) rfl ?_
          refine sw_bipush (dX0_addEdge.at 20 rfl) (by decide) ?_
          refine sw_imul (dX0_addEdge.at 21 rfl) ?_
          refine sw_topI (y := 60) (by first | rfl | (congr 1)) ?_
          refine sw_iload_n (dX0_addEdge.at 22 rfl) rfl rfl ?_
          refine sw_iadd (dX0_addEdge.at 23 rfl) ?_
          refine sw_topI (y := ((60 + a : Nat) : Int)) (by first | rfl | (congr 1)) ?_
          refine sw_dup2 (dX0_addEdge.at 24 rfl) (fun _ h => by cases h) (fun _ h => by cases h) ?_
          refine sw_laldN (60 + a) (w := ((f (60 + a) : Nat) : Int)) (dX0_addEdge.at 25 rfl) (S_lt 8 (by decide)) (S_8 nw nx g) (by decide) hv.1 rfl ?_
          replace hv := hv.2
          refine sw_lconst (z := 1) (dX0_addEdge.at 26 rfl) (by decide) ?_
          refine sw_iload_n (dX0_addEdge.at 27 rfl) rfl rfl ?_
          refine sw_lshlN 1 b (dX0_addEdge.at 28 rfl) hv.1 ?_
          replace hv := hv.2
          refine sw_lorN (f (60 + a)) (1 * 2 ^ b) (dX0_addEdge.at 29 rfl) ?_
          refine sw_lastN (60 + a) (dX0_addEdge.at 30 rfl) (S_lt 8 (by decide)) (S_8 nw nx g) (by decide) hv.1 ?_
          refine SW.cg (M' := (S nw nx g, 78 + gn, (wr c 8 (cN (uN f (60 + a) ((f (60 + a)) ||| (1 * 2 ^ b))))))) (congrArg (fun m => (S nw nx g, 78 + gn, m)) (wr_upN c 8 f (60 + a) ((f (60 + a)) ||| (1 * 2 ^ b)))) ?_
          replace hv := hv.2
          refine sw_aload_n (dX0_addEdge.at 31 rfl) rfl rfl ?_
          refine sw_getR (dX0_addEdge.at 32 rfl) fp_X0_9 (S_lt 7 (by decide)) (S_7 nw nx g) rfl rfl ?_
          refine sw_bipush (dX0_addEdge.at 33 rfl) (by decide) ?_
          refine sw_iload_n (dX0_addEdge.at 34 rfl) rfl rfl ?_
          refine sw_iadd (dX0_addEdge.at 35 rfl) ?_
          refine sw_topI (y := ((120 + a : Nat) : Int)) (by first | rfl | (congr 1)) ?_
          refine sw_dup2 (dX0_addEdge.at 36 rfl) (fun _ h => by cases h) (fun _ h => by cases h) ?_
          refine sw_laldN (120 + a) (w := (((uN f (60 + a) ((f (60 + a)) ||| (1 * 2 ^ b))) (120 + a) : Nat) : Int)) (dX0_addEdge.at 37 rfl) (S_lt 8 (by decide)) (S_8 nw nx g) (by decide) hv.1 rfl ?_
          replace hv := hv.2
          refine sw_lconst (z := 1) (dX0_addEdge.at 38 rfl) (by decide) ?_
          refine sw_iload_n (dX0_addEdge.at 39 rfl) rfl rfl ?_
          refine sw_lshlN 1 b (dX0_addEdge.at 40 rfl) hv.1 ?_
          replace hv := hv.2
          refine sw_lorN ((uN f (60 + a) ((f (60 + a)) ||| (1 * 2 ^ b))) (120 + a)) (1 * 2 ^ b) (dX0_addEdge.at 41 rfl) ?_
          refine sw_lastN (120 + a) (dX0_addEdge.at 42 rfl) (S_lt 8 (by decide)) (S_8 nw nx g) (by decide) hv.1 ?_
          refine SW.cg (M' := (S nw nx g, 78 + gn, (wr c 8 (cN (uN (uN f (60 + a) ((f (60 + a)) ||| (1 * 2 ^ b))) (120 + a) (((uN f (60 + a) ((f (60 + a)) ||| (1 * 2 ^ b))) (120 + a)) ||| (1 * 2 ^ b))))))) (congrArg (fun m => (S nw nx g, 78 + gn, m)) (wr_upN c 8 (uN f (60 + a) ((f (60 + a)) ||| (1 * 2 ^ b))) (120 + a) (((uN f (60 + a) ((f (60 + a)) ||| (1 * 2 ^ b))) (120 + a)) ||| (1 * 2 ^ b)))) ?_
          replace hv := hv.2
          refine sw_iinc (lo' := [some (vr (7)), some (vr (e)), some (vi (((a : Nat) : Int))), some (vi (((b : Nat) : Int))), some (vi (2))]) (dX0_addEdge.at 43 rfl) rfl (by decide) rfl ?_
          refine sw_goto (tgt := 3) (dX0_addEdge.at 44 rfl) (by decide) ?_
          refine sw_iload (dX0_addEdge.at 2 rfl) rfl ?_
          refine sw_iconst (dX0_addEdge.at 3 rfl) ?_
          refine sw_icmp_ge (tgt := 68) (dX0_addEdge.at 4 rfl) (by decide) (by decide) (by decide) (fun q => ?_) (fun q => ?_)
          · clear q
            exact sw_vret (dX0_addEdge.at 45 rfl) rfl (Nat.le_refl _) (Nat.le_refl _) hv
          · exact absurd q (by decide)
    · replace hv := hv.2.2 q
      refine sw_aload_n (dX0_addEdge.at 17 rfl) rfl rfl ?_
      refine sw_getR (dX0_addEdge.at 18 rfl) fp_X0_9 (S_lt 7 (by decide)) (S_7 nw nx g) rfl rfl ?_
      refine sw_iload (dX0_addEdge.at 19 rfl) rfl ?_
      refine sw_bipush (dX0_addEdge.at 20 rfl) (by decide) ?_
      refine sw_imul (dX0_addEdge.at 21 rfl) ?_
      refine sw_topI (y := 0) (by first | rfl | (congr 1)) ?_
      refine sw_iload_n (dX0_addEdge.at 22 rfl) rfl rfl ?_
      refine sw_iadd (dX0_addEdge.at 23 rfl) ?_
      refine sw_topI (y := ((0 + a : Nat) : Int)) (by first | rfl | (congr 1)) ?_
      refine sw_dup2 (dX0_addEdge.at 24 rfl) (fun _ h => by cases h) (fun _ h => by cases h) ?_
      refine sw_laldN (0 + a) (w := ((f (0 + a) : Nat) : Int)) (dX0_addEdge.at 25 rfl) (S_lt 8 (by decide)) (S_8 nw nx g) (by decide) hv.1 rfl ?_
      replace hv := hv.2
      refine sw_lconst (z := 1) (dX0_addEdge.at 26 rfl) (by decide) ?_
      refine sw_iload_n (dX0_addEdge.at 27 rfl) rfl rfl ?_
      refine sw_lshlN 1 b (dX0_addEdge.at 28 rfl) hv.1 ?_
      replace hv := hv.2
      refine sw_lorN (f (0 + a)) (1 * 2 ^ b) (dX0_addEdge.at 29 rfl) ?_
      refine sw_lastN (0 + a) (dX0_addEdge.at 30 rfl) (S_lt 8 (by decide)) (S_8 nw nx g) (by decide) hv.1 ?_
      refine SW.cg (M' := (S nw nx g, 78 + gn, (wr c 8 (cN (uN f (0 + a) ((f (0 + a)) ||| (1 * 2 ^ b))))))) (congrArg (fun m => (S nw nx g, 78 + gn, m)) (wr_upN c 8 f (0 + a) ((f (0 + a)) ||| (1 * 2 ^ b)))) ?_
      replace hv := hv.2
      refine sw_aload_n (dX0_addEdge.at 31 rfl) rfl rfl ?_
      refine sw_getR (dX0_addEdge.at 32 rfl) fp_X0_9 (S_lt 7 (by decide)) (S_7 nw nx g) rfl rfl ?_
      refine sw_bipush (dX0_addEdge.at 33 rfl) (by decide) ?_
      refine sw_iload_n (dX0_addEdge.at 34 rfl) rfl rfl ?_
      refine sw_iadd (dX0_addEdge.at 35 rfl) ?_
      refine sw_topI (y := ((120 + a : Nat) : Int)) (by first | rfl | (congr 1)) ?_
      refine sw_dup2 (dX0_addEdge.at 36 rfl) (fun _ h => by cases h) (fun _ h => by cases h) ?_
      refine sw_laldN (120 + a) (w := (((uN f (0 + a) ((f (0 + a)) ||| (1 * 2 ^ b))) (120 + a) : Nat) : Int)) (dX0_addEdge.at 37 rfl) (S_lt 8 (by decide)) (S_8 nw nx g) (by decide) hv.1 rfl ?_
      replace hv := hv.2
      refine sw_lconst (z := 1) (dX0_addEdge.at 38 rfl) (by decide) ?_
      refine sw_iload_n (dX0_addEdge.at 39 rfl) rfl rfl ?_
      refine sw_lshlN 1 b (dX0_addEdge.at 40 rfl) hv.1 ?_
      replace hv := hv.2
      refine sw_lorN ((uN f (0 + a) ((f (0 + a)) ||| (1 * 2 ^ b))) (120 + a)) (1 * 2 ^ b) (dX0_addEdge.at 41 rfl) ?_
      refine sw_lastN (120 + a) (dX0_addEdge.at 42 rfl) (S_lt 8 (by decide)) (S_8 nw nx g) (by decide) hv.1 ?_
      refine SW.cg (M' := (S nw nx g, 78 + gn, (wr c 8 (cN (uN (uN f (0 + a) ((f (0 + a)) ||| (1 * 2 ^ b))) (120 + a) (((uN f (0 + a) ((f (0 + a)) ||| (1 * 2 ^ b))) (120 + a)) ||| (1 * 2 ^ b))))))) (congrArg (fun m => (S nw nx g, 78 + gn, m)) (wr_upN c 8 (uN f (0 + a) ((f (0 + a)) ||| (1 * 2 ^ b))) (120 + a) (((uN f (0 + a) ((f (0 + a)) ||| (1 * 2 ^ b))) (120 + a)) ||| (1 * 2 ^ b)))) ?_
      replace hv := hv.2
      refine sw_iinc (lo' := [some (vr (7)), some (vr (e)), some (vi (((a : Nat) : Int))), some (vi (((b : Nat) : Int))), some (vi (1))]) (dX0_addEdge.at 43 rfl) rfl (by decide) rfl ?_
      refine sw_goto (tgt := 3) (dX0_addEdge.at 44 rfl) (by decide) ?_
      refine sw_iload (dX0_addEdge.at 2 rfl) rfl ?_
      refine sw_iconst (dX0_addEdge.at 3 rfl) ?_
      refine sw_icmp_ge (tgt := 68) (dX0_addEdge.at 4 rfl) (by decide) (by decide) (by decide) (fun q => ?_) (fun q => ?_)
      · exact absurd q (by decide)
      · clear q
        refine sw_aload_n (dX0_addEdge.at 5 rfl) rfl rfl ?_
        refine sw_iload_n (dX0_addEdge.at 6 rfl) rfl rfl ?_
        refine sw_iload (dX0_addEdge.at 7 rfl) rfl ?_
        refine sw_callV (B' := B0) (As := [vi (((b : Nat) : Int)), vi (1)]) (mc := 0) (ms := 0) (dX0_addEdge.at 8 rfl) lk_X0_47 (S_e_lt he) (S_e he) rfl rfl (Nat.le_of_ble_eq_true rfl) rfl (Nat.le_refl _) (Nat.le_refl _) ?_
        refine c_X1_descentsOn (e := e) (x := b) (sd := 1) (j := j + 0) he (EL_wr (a := 8) (f := (cN (uN (uN f (0 + a) ((f (0 + a)) ||| (1 * 2 ^ b))) (120 + a) (((uN f (0 + a) ((f (0 + a)) ||| (1 * 2 ^ b))) (120 + a)) ||| (1 * 2 ^ b))))) hE he (by decide)) hV hv.1 hv.2.1 ?_
        replace hv := hv.2.2
        refine sw_aload_n (dX0_addEdge.at 9 rfl) rfl rfl ?_
        refine sw_iload_n (dX0_addEdge.at 10 rfl) rfl rfl ?_
        refine sw_iload (dX0_addEdge.at 11 rfl) rfl ?_
        refine sw_callV (B' := B0) (As := [vi (((a : Nat) : Int)), vi (1)]) (mc := 0) (ms := 0) (dX0_addEdge.at 12 rfl) lk_X0_47 (S_e_lt he) (S_e he) rfl rfl (Nat.le_of_ble_eq_true rfl) rfl (Nat.le_refl _) (Nat.le_refl _) ?_
        refine c_X1_descentsOn (e := e) (x := a) (sd := 1) (j := j + 0) he (EL_wr (a := 8) (f := (cN (uN (uN f (0 + a) ((f (0 + a)) ||| (1 * 2 ^ b))) (120 + a) (((uN f (0 + a) ((f (0 + a)) ||| (1 * 2 ^ b))) (120 + a)) ||| (1 * 2 ^ b))))) hE he (by decide)) hV hv.1 hv.2.1 ?_
        replace hv := hv.2.2
        refine sw_iconst (dX0_addEdge.at 13 rfl) ?_
        refine sw_ixor (dX0_addEdge.at 14 rfl) ?_
        refine sw_andC (if 1 = 0 then gF P b else gE P b) (if 1 = 0 then gF P a else gE P a) (dX0_addEdge.at 15 rfl) ?_
        refine sw_ifN_eq (andn (if 1 = 0 then gF P b else gE P b) (if 1 = 0 then gF P a else gE P a)) (tgt := 62) (dX0_addEdge.at 16 rfl) (by decide) hv.1 (fun q => ?_) (fun q => ?_)
        · replace hv := hv.2.1 q
          refine sw_iinc (lo' := [some (vr (7)), some (vr (e)), some (vi (((a : Nat) : Int))), some (vi (((b : Nat) : Int))), some (vi (2))]) (dX0_addEdge.at 43 rfl) rfl (by decide) rfl ?_
          refine sw_goto (tgt := 3) (dX0_addEdge.at 44 rfl) (by decide) ?_
          refine sw_iload (dX0_addEdge.at 2 rfl) rfl ?_
          refine sw_iconst (dX0_addEdge.at 3 rfl) ?_
          refine sw_icmp_ge (tgt := 68) (dX0_addEdge.at 4 rfl) (by decide) (by decide) (by decide) (fun q => ?_) (fun q => ?_)
          · clear q
            exact sw_vret (dX0_addEdge.at 45 rfl) rfl (Nat.le_refl _) (Nat.le_refl _) hv
          · exact absurd q (by decide)
        · replace hv := hv.2.2 q
          refine sw_aload_n (dX0_addEdge.at 17 rfl) rfl rfl ?_
          refine sw_getR (dX0_addEdge.at 18 rfl) fp_X0_9 (S_lt 7 (by decide)) (S_7 nw nx g) rfl rfl ?_
          refine sw_iload (dX0_addEdge.at 19 rfl) rfl ?_
          refine sw_bipush (dX0_addEdge.at 20 rfl) (by decide) ?_
          refine sw_imul (dX0_addEdge.at 21 rfl) ?_
          refine sw_topI (y := 60) (by first | rfl | (congr 1)) ?_
          refine sw_iload_n (dX0_addEdge.at 22 rfl) rfl rfl ?_
          refine sw_iadd (dX0_addEdge.at 23 rfl) ?_
          refine sw_topI (y := ((60 + a : Nat) : Int)) (by first | rfl | (congr 1)) ?_
          refine sw_dup2 (dX0_addEdge.at 24 rfl) (fun _ h => by cases h) (fun _ h => by cases h) ?_
          refine sw_laldN (60 + a) (w := (((uN (uN f (0 + a) ((f (0 + a)) ||| (1 * 2 ^ b))) (120 + a) (((uN f (0 + a) ((f (0 + a)) ||| (1 * 2 ^ b))) (120 + a)) ||| (1 * 2 ^ b))) (60 + a) : Nat) : Int)) (dX0_addEdge.at 25 rfl) (S_lt 8 (by decide)) (S_8 nw nx g) (by decide) hv.1 rfl ?_
          replace hv := hv.2
          refine sw_lconst (z := 1) (dX0_addEdge.at 26 rfl) (by decide) ?_
          refine sw_iload_n (dX0_addEdge.at 27 rfl) rfl rfl ?_
          refine sw_lshlN 1 b (dX0_addEdge.at 28 rfl) hv.1 ?_
          replace hv := hv.2
          refine sw_lorN ((uN (uN f (0 + a) ((f (0 + a)) ||| (1 * 2 ^ b))) (120 + a) (((uN f (0 + a) ((f (0 + a)) ||| (1 * 2 ^ b))) (120 + a)) ||| (1 * 2 ^ b))) (60 + a)) (1 * 2 ^ b) (dX0_addEdge.at 29 rfl) ?_
          refine sw_lastN (60 + a) (dX0_addEdge.at 30 rfl) (S_lt 8 (by decide)) (S_8 nw nx g) (by decide) hv.1 ?_
          refine SW.cg (M' := (S nw nx g, 78 + gn, (wr c 8 (cN (uN (uN (uN f (0 + a) ((f (0 + a)) ||| (1 * 2 ^ b))) (120 + a) (((uN f (0 + a) ((f (0 + a)) ||| (1 * 2 ^ b))) (120 + a)) ||| (1 * 2 ^ b))) (60 + a) (((uN (uN f (0 + a) ((f (0 + a)) ||| (1 * 2 ^ b))) (120 + a) (((uN f (0 + a) ((f (0 + a)) ||| (1 * 2 ^ b))) (120 + a)) ||| (1 * 2 ^ b))) (60 + a)) ||| (1 * 2 ^ b))))))) (congrArg (fun m => (S nw nx g, 78 + gn, m)) (wr_upN c 8 (uN (uN f (0 + a) ((f (0 + a)) ||| (1 * 2 ^ b))) (120 + a) (((uN f (0 + a) ((f (0 + a)) ||| (1 * 2 ^ b))) (120 + a)) ||| (1 * 2 ^ b))) (60 + a) (((uN (uN f (0 + a) ((f (0 + a)) ||| (1 * 2 ^ b))) (120 + a) (((uN f (0 + a) ((f (0 + a)) ||| (1 * 2 ^ b))) (120 + a)) ||| (1 * 2 ^ b))) (60 + a)) ||| (1 * 2 ^ b)))) ?_
          replace hv := hv.2
          refine sw_aload_n (dX0_addEdge.at 31 rfl) rfl rfl ?_
          refine sw_getR (dX0_addEdge.at 32 rfl) fp_X0_9 (S_lt 7 (by decide)) (S_7 nw nx g) rfl rfl ?_
          refine sw_bipush (dX0_addEdge.at 33 rfl) (by decide) ?_
          refine sw_iload_n (dX0_addEdge.at 34 rfl) rfl rfl ?_
          refine sw_iadd (dX0_addEdge.at 35 rfl) ?_
          refine sw_topI (y := ((120 + a : Nat) : Int)) (by first | rfl | (congr 1)) ?_
          refine sw_dup2 (dX0_addEdge.at 36 rfl) (fun _ h => by cases h) (fun _ h => by cases h) ?_
          refine sw_laldN (120 + a) (w := (((uN (uN (uN f (0 + a) ((f (0 + a)) ||| (1 * 2 ^ b))) (120 + a) (((uN f (0 + a) ((f (0 + a)) ||| (1 * 2 ^ b))) (120 + a)) ||| (1 * 2 ^ b))) (60 + a) (((uN (uN f (0 + a) ((f (0 + a)) ||| (1 * 2 ^ b))) (120 + a) (((uN f (0 + a) ((f (0 + a)) ||| (1 * 2 ^ b))) (120 + a)) ||| (1 * 2 ^ b))) (60 + a)) ||| (1 * 2 ^ b))) (120 + a) : Nat) : Int)) (dX0_addEdge.at 37 rfl) (S_lt 8 (by decide)) (S_8 nw nx g) (by decide) hv.1 rfl ?_
          replace hv := hv.2
          refine sw_lconst (z := 1) (dX0_addEdge.at 38 rfl) (by decide) ?_
          refine sw_iload_n (dX0_addEdge.at 39 rfl) rfl rfl ?_
          refine sw_lshlN 1 b (dX0_addEdge.at 40 rfl) hv.1 ?_
          replace hv := hv.2
          refine sw_lorN ((uN (uN (uN f (0 + a) ((f (0 + a)) ||| (1 * 2 ^ b))) (120 + a) (((uN f (0 + a) ((f (0 + a)) ||| (1 * 2 ^ b))) (120 + a)) ||| (1 * 2 ^ b))) (60 + a) (((uN (uN f (0 + a) ((f (0 + a)) ||| (1 * 2 ^ b))) (120 + a) (((uN f (0 + a) ((f (0 + a)) ||| (1 * 2 ^ b))) (120 + a)) ||| (1 * 2 ^ b))) (60 + a)) ||| (1 * 2 ^ b))) (120 + a)) (1 * 2 ^ b) (dX0_addEdge.at 41 rfl) ?_
          refine sw_lastN (120 + a) (dX0_addEdge.at 42 rfl) (S_lt 8 (by decide)) (S_8 nw nx g) (by decide) hv.1 ?_
          refine SW.cg (M' := (S nw nx g, 78 + gn, (wr c 8 (cN (uN (uN (uN (uN f (0 + a) ((f (0 + a)) ||| (1 * 2 ^ b))) (120 + a) (((uN f (0 + a) ((f (0 + a)) ||| (1 * 2 ^ b))) (120 + a)) ||| (1 * 2 ^ b))) (60 + a) (((uN (uN f (0 + a) ((f (0 + a)) ||| (1 * 2 ^ b))) (120 + a) (((uN f (0 + a) ((f (0 + a)) ||| (1 * 2 ^ b))) (120 + a)) ||| (1 * 2 ^ b))) (60 + a)) ||| (1 * 2 ^ b))) (120 + a) (((uN (uN (uN f (0 + a) ((f (0 + a)) ||| (1 * 2 ^ b))) (120 + a) (((uN f (0 + a) ((f (0 + a)) ||| (1 * 2 ^ b))) (120 + a)) ||| (1 * 2 ^ b))) (60 + a) (((uN (uN f (0 + a) ((f (0 + a)) ||| (1 * 2 ^ b))) (120 + a) (((uN f (0 + a) ((f (0 + a)) ||| (1 * 2 ^ b))) (120 + a)) ||| (1 * 2 ^ b))) (60 + a)) ||| (1 * 2 ^ b))) (120 + a)) ||| (1 * 2 ^ b))))))) (congrArg (fun m => (S nw nx g, 78 + gn, m)) (wr_upN c 8 (uN (uN (uN f (0 + a) ((f (0 + a)) ||| (1 * 2 ^ b))) (120 + a) (((uN f (0 + a) ((f (0 + a)) ||| (1 * 2 ^ b))) (120 + a)) ||| (1 * 2 ^ b))) (60 + a) (((uN (uN f (0 + a) ((f (0 + a)) ||| (1 * 2 ^ b))) (120 + a) (((uN f (0 + a) ((f (0 + a)) ||| (1 * 2 ^ b))) (120 + a)) ||| (1 * 2 ^ b))) (60 + a)) ||| (1 * 2 ^ b))) (120 + a) (((uN (uN (uN f (0 + a) ((f (0 + a)) ||| (1 * 2 ^ b))) (120 + a) (((uN f (0 + a) ((f (0 + a)) ||| (1 * 2 ^ b))) (120 + a)) ||| (1 * 2 ^ b))) (60 + a) (((uN (uN f (0 + a) ((f (0 + a)) ||| (1 * 2 ^ b))) (120 + a) (((uN f (0 + a) ((f (0 + a)) ||| (1 * 2 ^ b))) (120 + a)) ||| (1 * 2 ^ b))) (60 + a)) ||| (1 * 2 ^ b))) (120 + a)) ||| (1 * 2 ^ b)))) ?_
          replace hv := hv.2
          refine sw_iinc (lo' := [some (vr (7)), some (vr (e)), some (vi (((a : Nat) : Int))), some (vi (((b : Nat) : Int))), some (vi (2))]) (dX0_addEdge.at 43 rfl) rfl (by decide) rfl ?_
          refine sw_goto (tgt := 3) (dX0_addEdge.at 44 rfl) (by decide) ?_
          refine sw_iload (dX0_addEdge.at 2 rfl) rfl ?_
          refine sw_iconst (dX0_addEdge.at 3 rfl) ?_
          refine sw_icmp_ge (tgt := 68) (dX0_addEdge.at 4 rfl) (by decide) (by decide) (by decide) (fun q => ?_) (fun q => ?_)
          · clear q
            exact sw_vret (dX0_addEdge.at 45 rfl) rfl (Nat.le_refl _) (Nat.le_refl _) hv
          · exact absurd q (by decide)

set_option maxHeartbeats 2000000 in
theorem c_X0_addEdge {G : GG} {j nw nx gn : Nat} {g : Nat → Sh} {c : Nat → Nat → Int} {post : Option AV → AM → Prop} {P : GD} {e a b : Nat} {f : Nat → Nat} (he : e = 21 ∨ e = 35) (hE : EL c e P) (hV : GV P) (p1 : a < gN P) (p2 : b < gN P) (K : post none (S nw nx g, 78 + gn, wr c 8 (cN (aE P f a b)))) : SM G (j + 2) mX0_addEdge [vr 7, vr e, vi ((a : Nat) : Int), vi ((b : Nat) : Int)] (S nw nx g, 78 + gn, wr c 8 (cN f)) 0 0 post := by
  refine sm_of wX0_addEdge rfl (Nat.le_of_ble_eq_true rfl) ?_
  have h60 := GV_N hV
  have fa := hV.2.2.1 a p1
  have fb := hV.2.2.1 b p2
  refine g_X0_addEdge_0 he hE hV ?_
  have n1 := andn_le (gF P b) (gF P a)
  have n2 := andn_le (gE P b) (gE P a)
  simp only [aE, eb] at K
  simp only [eq_self, if_true, Nat.one_ne_zero, if_false]
  by_cases hF : andn (gF P b) (gF P a) = 0
  · by_cases hE2 : andn (gE P b) (gE P a) = 0
    · simp only [hF, hE2, if_true] at K
      refine ⟨?_, ?_, ⟨?_, ?_, ⟨?_, ⟨fun q => ⟨?_, ?_, ⟨?_, ?_, ⟨?_, ⟨fun q => ?_, fun q => ⟨?_, ⟨?_, ⟨?_, ⟨?_, ⟨?_, ⟨?_, ?_⟩⟩⟩⟩⟩⟩⟩⟩⟩⟩, fun q => ⟨?_, ⟨?_, ⟨?_, ⟨?_, ⟨?_, ⟨?_, ⟨?_, ?_, ⟨?_, ?_, ⟨?_, ⟨fun q => ?_, fun q => ⟨?_, ⟨?_, ⟨?_, ⟨?_, ⟨?_, ⟨?_, ?_⟩⟩⟩⟩⟩⟩⟩⟩⟩⟩⟩⟩⟩⟩⟩⟩⟩⟩⟩⟩
      all_goals first | omega | exact K | (exfalso; omega)
    · simp only [hF, hE2, if_true, if_false] at K
      refine ⟨?_, ?_, ⟨?_, ?_, ⟨?_, ⟨fun q => ⟨?_, ?_, ⟨?_, ?_, ⟨?_, ⟨fun q => ?_, fun q => ⟨?_, ⟨?_, ⟨?_, ⟨?_, ⟨?_, ⟨?_, ?_⟩⟩⟩⟩⟩⟩⟩⟩⟩⟩, fun q => ⟨?_, ⟨?_, ⟨?_, ⟨?_, ⟨?_, ⟨?_, ⟨?_, ?_, ⟨?_, ?_, ⟨?_, ⟨fun q => ?_, fun q => ⟨?_, ⟨?_, ⟨?_, ⟨?_, ⟨?_, ⟨?_, ?_⟩⟩⟩⟩⟩⟩⟩⟩⟩⟩⟩⟩⟩⟩⟩⟩⟩⟩⟩⟩
      all_goals first | omega | exact K | (exfalso; omega)
  · by_cases hE2 : andn (gE P b) (gE P a) = 0
    · simp only [hF, hE2, if_true, if_false] at K
      refine ⟨?_, ?_, ⟨?_, ?_, ⟨?_, ⟨fun q => ⟨?_, ?_, ⟨?_, ?_, ⟨?_, ⟨fun q => ?_, fun q => ⟨?_, ⟨?_, ⟨?_, ⟨?_, ⟨?_, ⟨?_, ?_⟩⟩⟩⟩⟩⟩⟩⟩⟩⟩, fun q => ⟨?_, ⟨?_, ⟨?_, ⟨?_, ⟨?_, ⟨?_, ⟨?_, ?_, ⟨?_, ?_, ⟨?_, ⟨fun q => ?_, fun q => ⟨?_, ⟨?_, ⟨?_, ⟨?_, ⟨?_, ⟨?_, ?_⟩⟩⟩⟩⟩⟩⟩⟩⟩⟩⟩⟩⟩⟩⟩⟩⟩⟩⟩⟩
      all_goals first | omega | exact K | (exfalso; omega)
    · simp only [hF, hE2, if_false] at K
      refine ⟨?_, ?_, ⟨?_, ?_, ⟨?_, ⟨fun q => ⟨?_, ?_, ⟨?_, ?_, ⟨?_, ⟨fun q => ?_, fun q => ⟨?_, ⟨?_, ⟨?_, ⟨?_, ⟨?_, ⟨?_, ?_⟩⟩⟩⟩⟩⟩⟩⟩⟩⟩, fun q => ⟨?_, ⟨?_, ⟨?_, ⟨?_, ⟨?_, ⟨?_, ⟨?_, ?_, ⟨?_, ?_, ⟨?_, ⟨fun q => ?_, fun q => ⟨?_, ⟨?_, ⟨?_, ⟨?_, ⟨?_, ⟨?_, ?_⟩⟩⟩⟩⟩⟩⟩⟩⟩⟩⟩⟩⟩⟩⟩⟩⟩⟩⟩⟩
      all_goals first | omega | exact K | (exfalso; omega)

def clX (f : Nat → Nat) (st m : Nat) : Nat → Nat → Nat → Nat
  | 0, _ => f
  | k + 1, x => clX (if (f (st + x)).testBit m then uN f (st + x) (f (st + x) ||| f (st + m)) else f) st m k (x + 1)
def clM (st n : Nat) : Nat → Nat → (Nat → Nat) → Nat → Nat
  | 0, _, f => f
  | k + 1, m, f => clM st n k (m + 1) (clX f st m n 0)
theorem clX_BF {n st m : Nat} (hs : st % 60 = 0) (hst : st + n ≤ 180) (hn : n ≤ 60) (hm : m < n) : ∀ k x f, x + k = n → BF n f → BF n (clX f st m k x) := by
  intro k
  induction k with
  | zero => intro x f _ h; exact h
  | succ k ih =>
    intro x f hx h
    rw [clX]
    refine ih _ _ (by omega) ?_
    split
    · exact BF_u h (Nat.or_lt_two_pow (h _ (by omega) (by omega)) (h _ (by omega) (by omega)))
    · exact h
theorem clM_BF {n st : Nat} (hs : st % 60 = 0) (hst : st + n ≤ 180) (hn : n ≤ 60) : ∀ k m f, m + k = n → BF n f → BF n (clM st n k m f) := by
  intro k
  induction k with
  | zero => intro m f _ h; exact h
  | succ k ih => intro m f hm h; exact ih _ _ (by omega) (clX_BF hs hst hn (by omega) n 0 f (by omega) h)
set_option maxHeartbeats 2000000 in
set_option maxRecDepth 20000 in
theorem g_X0_close_10 {G : GG} {j nw nx gn : Nat} {g : Nat → Sh} {c : Nat → Nat → Int} {post : Option AV → AM → Prop} {st : Nat} {q0 : Nat} {m : Nat} {x : Nat} {f : Nat → Nat}  (hv : (x < 2147483648) ∧ (q0 < 2147483648) ∧ (((q0 ≤ x) → SW G (j + 1) mX0_close 2 [some (vr (7)), some (vi (((st : Nat) : Int))), some (vi (((q0 : Nat) : Int))), some (vi (((m + 1 : Nat) : Int))), none] [] (S nw nx g, 78 + gn, (wr c 8 (cN f))) B0 post) ∧ ((¬ (q0 ≤ x)) → (st + x < 180) ∧ (((f (st + x)) < 9223372036854775808) ∧ (m < 64) ∧ (((((f (st + x)).testBit m) = false) → SW G (j + 1) mX0_close 10 [some (vr (7)), some (vi (((st : Nat) : Int))), some (vi (((q0 : Nat) : Int))), some (vi (((m : Nat) : Int))), some (vi (((x + 1 : Nat) : Int)))] [] (S nw nx g, 78 + gn, (wr c 8 (cN f))) B0 post) ∧ ((((f (st + x)).testBit m) = true) → (st + x < 180) ∧ ((st + m < 180) ∧ ((st + x < 180) ∧ (SW G (j + 1) mX0_close 10 [some (vr (7)), some (vi (((st : Nat) : Int))), some (vi (((q0 : Nat) : Int))), some (vi (((m : Nat) : Int))), some (vi (((x + 1 : Nat) : Int)))] [] (S nw nx g, 78 + gn, (wr c 8 (cN (uN f (st + x) ((f (st + x)) ||| (f (st + m))))))) B0 post))))))))) :
    SW G (j + 1) mX0_close 10 [some (vr (7)), some (vi (((st : Nat) : Int))), some (vi (((q0 : Nat) : Int))), some (vi (((m : Nat) : Int))), some (vi (((x : Nat) : Int)))] [] (S nw nx g, 78 + gn, (wr c 8 (cN f))) B0 post := by
  refine sw_iload (dX0_close.at 7 rfl) rfl ?_
  refine sw_iload_n (dX0_close.at 8 rfl) rfl rfl ?_
  refine sw_icmpN_ge x q0 (tgt := 58) (dX0_close.at 9 rfl) (by decide) hv.1 hv.2.1 (fun q => ?_) (fun q => ?_)
  · replace hv := hv.2.2.1 q
    refine sw_iinc (lo' := [some (vr (7)), some (vi (((st : Nat) : Int))), some (vi (((q0 : Nat) : Int))), some (vi (((m + 1 : Nat) : Int))), some (vi (((x : Nat) : Int)))]) (dX0_close.at 36 rfl) rfl (by decide) rfl ?_
    refine sw_goto (tgt := 2) (dX0_close.at 37 rfl) (by decide) ?_
    exact sw_mask (bs := [true, true, true, true, false]) hv
  · replace hv := hv.2.2.2 q
    refine sw_aload_n (dX0_close.at 10 rfl) rfl rfl ?_
    refine sw_getR (dX0_close.at 11 rfl) fp_X0_9 (S_lt 7 (by decide)) (S_7 nw nx g) rfl rfl ?_
    refine sw_iload_n (dX0_close.at 12 rfl) rfl rfl ?_
    refine sw_iload (dX0_close.at 13 rfl) rfl ?_
    refine sw_iadd (dX0_close.at 14 rfl) ?_
    refine sw_topI (y := ((st + x : Nat) : Int)) (by first | rfl | (congr 1)) ?_
    refine sw_laldN (st + x) (w := ((f (st + x) : Nat) : Int)) (dX0_close.at 15 rfl) (S_lt 8 (by decide)) (S_8 nw nx g) (by decide) hv.1 rfl ?_
    replace hv := hv.2
    refine sw_iload_n (dX0_close.at 16 rfl) rfl rfl ?_
    refine sw_callN (B' := B0) (As := [vl (((f (st + x) : Nat) : Int)), vi (((m : Nat) : Int))]) (mc := 0) (ms := 0) (dX0_close.at 17 rfl) lk_X0_39 rfl rfl (Nat.le_of_ble_eq_true rfl) rfl (Nat.le_refl _) (Nat.le_refl _) ?_
    refine c_X8_hasBit (s := (f (st + x))) (i := m) (j := j + 0) hv.1 hv.2.1 ?_
    replace hv := hv.2.2
    refine sw_if_eq (tgt := 52) (dX0_close.at 18 rfl) (by decide) (bz_rng _) (fun q => ?_) (fun q => ?_)
    · replace hv := hv.1 (bz_0 q)
      refine sw_iinc (lo' := [some (vr (7)), some (vi (((st : Nat) : Int))), some (vi (((q0 : Nat) : Int))), some (vi (((m : Nat) : Int))), some (vi (((x + 1 : Nat) : Int)))]) (dX0_close.at 34 rfl) rfl (by decide) rfl ?_
      refine sw_goto (tgt := 10) (dX0_close.at 35 rfl) (by decide) ?_
      exact hv
    · replace hv := hv.2 (bz_n0 q)
      refine sw_aload_n (dX0_close.at 19 rfl) rfl rfl ?_
      refine sw_getR (dX0_close.at 20 rfl) fp_X0_9 (S_lt 7 (by decide)) (S_7 nw nx g) rfl rfl ?_
      refine sw_iload_n (dX0_close.at 21 rfl) rfl rfl ?_
      refine sw_iload (dX0_close.at 22 rfl) rfl ?_
      refine sw_iadd (dX0_close.at 23 rfl) ?_
      refine sw_topI (y := ((st + x : Nat) : Int)) (by first | rfl | (congr 1)) ?_
      refine sw_dup2 (dX0_close.at 24 rfl) (fun _ h => by cases h) (fun _ h => by cases h) ?_
      refine sw_laldN (st + x) (w := ((f (st + x) : Nat) : Int)) (dX0_close.at 25 rfl) (S_lt 8 (by decide)) (S_8 nw nx g) (by decide) hv.1 rfl ?_
      replace hv := hv.2
      refine sw_aload_n (dX0_close.at 26 rfl) rfl rfl ?_
      refine sw_getR (dX0_close.at 27 rfl) fp_X0_9 (S_lt 7 (by decide)) (S_7 nw nx g) rfl rfl ?_
      refine sw_iload_n (dX0_close.at 28 rfl) rfl rfl ?_
      refine sw_iload_n (dX0_close.at 29 rfl) rfl rfl ?_
      refine sw_iadd (dX0_close.at 30 rfl) ?_
      refine sw_topI (y := ((st + m : Nat) : Int)) (by first | rfl | (congr 1)) ?_
      refine sw_laldN (st + m) (w := ((f (st + m) : Nat) : Int)) (dX0_close.at 31 rfl) (S_lt 8 (by decide)) (S_8 nw nx g) (by decide) hv.1 rfl ?_
      replace hv := hv.2
      refine sw_lorN (f (st + x)) (f (st + m)) (dX0_close.at 32 rfl) ?_
      refine sw_lastN (st + x) (dX0_close.at 33 rfl) (S_lt 8 (by decide)) (S_8 nw nx g) (by decide) hv.1 ?_
      refine SW.cg (M' := (S nw nx g, 78 + gn, (wr c 8 (cN (uN f (st + x) ((f (st + x)) ||| (f (st + m)))))))) (congrArg (fun m => (S nw nx g, 78 + gn, m)) (wr_upN c 8 f (st + x) ((f (st + x)) ||| (f (st + m))))) ?_
      replace hv := hv.2
      refine sw_iinc (lo' := [some (vr (7)), some (vi (((st : Nat) : Int))), some (vi (((q0 : Nat) : Int))), some (vi (((m : Nat) : Int))), some (vi (((x + 1 : Nat) : Int)))]) (dX0_close.at 34 rfl) rfl (by decide) rfl ?_
      refine sw_goto (tgt := 10) (dX0_close.at 35 rfl) (by decide) ?_
      exact hv

set_option maxHeartbeats 4000000 in
theorem lp_X0_close_10 {G : GG} {j nw nx gn : Nat} {g : Nat → Sh} {c : Nat → Nat → Int} {post : Option AV → AM → Prop} {m : Nat} {st : Nat} {q0 : Nat} (hs : st % 60 = 0) (hst : st + q0 ≤ 180) (hq : q0 ≤ 60) (hm : m < q0) : ∀ (k : Nat) (x : Nat) (f : Nat → Nat), x + k = q0 → (BF q0 f) → (SW G (j + 1) mX0_close 2 [some (vr (7)), some (vi (((st : Nat) : Int))), some (vi (((q0 : Nat) : Int))), some (vi (((m + 1 : Nat) : Int))), none] [] (S nw nx g, 78 + gn, (wr c 8 (cN (clX f st m k x)))) B0 post) → SW G (j + 1) mX0_close 10 [some (vr (7)), some (vi (((st : Nat) : Int))), some (vi (((q0 : Nat) : Int))), some (vi (((m : Nat) : Int))), some (vi (((x : Nat) : Int)))] [] (S nw nx g, 78 + gn, (wr c 8 (cN f))) B0 post := by
  intro k
  induction k with
  | zero =>
    intro x f hrel hB K
    simp only [clX] at K
    refine g_X0_close_10   ?_
    refine ⟨?_, ?_, ⟨fun q => ?_, fun q => ⟨?_, ⟨?_, ?_, ⟨fun q => ?_, fun q => ⟨?_, ⟨?_, ⟨?_, ?_⟩⟩⟩⟩⟩⟩⟩⟩
    all_goals first | omega | exact K | (exfalso; omega) | (simp only [*, if_true, if_false, ite_true, ite_false, Bool.false_eq_true, and_true, true_and, and_false, false_and, and_self, or_true, true_or, or_false, false_or, Bool.and_true, Bool.and_false, Bool.true_and, Bool.false_and, decide_true, decide_false, eq_self, not_true_eq_false, not_false_eq_true, ne_eq, reduceCtorEq] at K; exact K)
  | succ k ih =>
    intro x f hrel hB K
    rw [clX] at K
    have b1 := hB (st + x) (by omega) (by omega)
    have b2 := hB (st + m) (by omega) (by omega)
    have b3 := lt63 b1
    refine g_X0_close_10   ?_
    
    refine ⟨?_, ?_, ⟨fun q => ?_, fun q => ⟨?_, ⟨?_, ?_, ⟨fun q => ?_, fun q => ⟨?_, ⟨?_, ⟨?_, ?_⟩⟩⟩⟩⟩⟩⟩⟩
    all_goals first | omega | exact b3 | (exfalso; omega) | (rw [if_neg (by rw [q]; decide)] at K; exact ih _ _ (by omega) hB K) | (rw [if_pos q] at K; exact ih _ _ (by omega) (BF_u hB (Nat.or_lt_two_pow b1 b2)) K)

set_option maxHeartbeats 2000000 in
set_option maxRecDepth 20000 in
theorem g_X0_close_2 {G : GG} {j nw nx gn : Nat} {g : Nat → Sh} {c : Nat → Nat → Int} {post : Option AV → AM → Prop} {st : Nat} {q0 : Nat} {m : Nat} {f : Nat → Nat}  (hv : (m < 2147483648) ∧ (q0 < 2147483648) ∧ (((q0 ≤ m) → post none (S nw nx g, 78 + gn, (wr c 8 (cN f)))) ∧ ((¬ (q0 ≤ m)) → SW G (j + 1) mX0_close 10 [some (vr (7)), some (vi (((st : Nat) : Int))), some (vi (((q0 : Nat) : Int))), some (vi (((m : Nat) : Int))), some (vi (0))] [] (S nw nx g, 78 + gn, (wr c 8 (cN f))) B0 post))) :
    SW G (j + 1) mX0_close 2 [some (vr (7)), some (vi (((st : Nat) : Int))), some (vi (((q0 : Nat) : Int))), some (vi (((m : Nat) : Int))), none] [] (S nw nx g, 78 + gn, (wr c 8 (cN f))) B0 post := by
  refine sw_iload_n (dX0_close.at 2 rfl) rfl rfl ?_
  refine sw_iload_n (dX0_close.at 3 rfl) rfl rfl ?_
  refine sw_icmpN_ge m q0 (tgt := 64) (dX0_close.at 4 rfl) (by decide) hv.1 hv.2.1 (fun q => ?_) (fun q => ?_)
  · replace hv := hv.2.2.1 q
    exact sw_vret (dX0_close.at 38 rfl) rfl (Nat.le_refl _) (Nat.le_refl _) hv
  · replace hv := hv.2.2.2 q
    refine sw_iconst (dX0_close.at 5 rfl) ?_
    refine sw_istore (lo' := [some (vr (7)), some (vi (((st : Nat) : Int))), some (vi (((q0 : Nat) : Int))), some (vi (((m : Nat) : Int))), some (vi (0))]) (dX0_close.at 6 rfl) (by decide) rfl ?_
    exact hv

set_option maxHeartbeats 4000000 in
theorem lp_X0_close_2 {G : GG} {j nw nx gn : Nat} {g : Nat → Sh} {c : Nat → Nat → Int} {post : Option AV → AM → Prop} {st : Nat} {q0 : Nat} (hs : st % 60 = 0) (hst : st + q0 ≤ 180) (hq : q0 ≤ 60) : ∀ (k : Nat) (m : Nat) (f : Nat → Nat), m + k = q0 → (BF q0 f) → (post none (S nw nx g, 78 + gn, (wr c 8 (cN (clM st q0 k m f))))) → SW G (j + 1) mX0_close 2 [some (vr (7)), some (vi (((st : Nat) : Int))), some (vi (((q0 : Nat) : Int))), some (vi (((m : Nat) : Int))), none] [] (S nw nx g, 78 + gn, (wr c 8 (cN f))) B0 post := by
  intro k
  induction k with
  | zero =>
    intro m f hrel hB K
    simp only [clM] at K
    refine g_X0_close_2   ?_
    refine ⟨?_, ?_, ⟨fun q => ?_, fun q => ?_⟩⟩
    all_goals first | omega | exact K | (exfalso; omega) | (simp only [*, if_true, if_false, ite_true, ite_false, Bool.false_eq_true, and_true, true_and, and_false, false_and, and_self, or_true, true_or, or_false, false_or, Bool.and_true, Bool.and_false, Bool.true_and, Bool.false_and, decide_true, decide_false, eq_self, not_true_eq_false, not_false_eq_true, ne_eq, reduceCtorEq] at K; exact K)
  | succ k ih =>
    intro m f hrel hB K
    rw [clM] at K
    refine g_X0_close_2   ?_
    
    refine ⟨?_, ?_, ⟨fun q => ?_, fun q => ?_⟩⟩
    all_goals first | omega | (exfalso; omega) | exact lp_X0_close_10 hs hst hq (by omega) q0 0 f (by omega) hB (ih _ _ (by omega) (clX_BF hs hst hq (by omega) q0 0 f (by omega) hB) K)

set_option maxHeartbeats 2000000 in
set_option maxRecDepth 20000 in
theorem g_X0_close_0 {G : GG} {j nw nx gn : Nat} {g : Nat → Sh} {c : Nat → Nat → Int} {post : Option AV → AM → Prop} {st : Nat} {q0 : Nat} {f : Nat → Nat}  (hv : SW G (j + 1) mX0_close 2 [some (vr (7)), some (vi (((st : Nat) : Int))), some (vi (((q0 : Nat) : Int))), some (vi (0)), none] [] (S nw nx g, 78 + gn, (wr c 8 (cN f))) B0 post) :
    SW G (j + 1) mX0_close 0 [some (vr (7)), some (vi (((st : Nat) : Int))), some (vi (((q0 : Nat) : Int))), none, none] [] (S nw nx g, 78 + gn, (wr c 8 (cN f))) B0 post := by
  refine sw_iconst (dX0_close.at 0 rfl) ?_
  refine sw_istore_n (lo' := [some (vr (7)), some (vi (((st : Nat) : Int))), some (vi (((q0 : Nat) : Int))), some (vi (0)), none]) (dX0_close.at 1 rfl) rfl (by decide) rfl ?_
  exact hv

theorem c_X0_close {G : GG} {j nw nx gn : Nat} {g : Nat → Sh} {c : Nat → Nat → Int} {post : Option AV → AM → Prop} {st q0 : Nat} {f : Nat → Nat} (hs : st % 60 = 0) (hst : st + q0 ≤ 180) (hq : q0 ≤ 60) (hB : BF q0 f) (K : post none (S nw nx g, 78 + gn, (wr c 8 (cN (clM st q0 q0 0 f))))) : SM G (j + 2) mX0_close [vr 7, vi ((st : Nat) : Int), vi ((q0 : Nat) : Int)] (S nw nx g, 78 + gn, (wr c 8 (cN f))) 0 0 post := by
  refine sm_of wX0_close rfl (Nat.le_of_ble_eq_true rfl) ?_
  exact g_X0_close_0 (lp_X0_close_2 hs hst hq q0 0 f (by omega) hB K)

