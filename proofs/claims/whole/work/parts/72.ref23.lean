def m9_act (c : Nat → Nat → Int) (T A : Nat) (w : Int) : Nat → Nat → Int := up2 (up2 (up2 c 73 A ((T : Nat) : Int)) 49 39 ((A + 1 : Nat) : Int)) 49 38 w
def m9_mark (P : GD) (T A : Nat) (x : Int) (c : Nat → Nat → Int) : Nat → Nat → Int := if (0 ≤ x ∧ x < (gN P : Int)) ∧ A < 30 then m9_act c T A ((T ^^^ (1 * 2 ^ x.toNat) : Nat) : Int) else c
def m9_shift (P : GD) (T A : Nat) (x : Int) (c : Nat → Nat → Int) : Nat → Nat → Int := if (0 ≤ x ∧ x < (gR P : Int)) ∧ A < 30 then m9_act c T A ((gAll P T x.toNat (gN P) : Nat) : Int) else c
def m9_thin (P : GD) (T A : Nat) (c : Nat → Nat → Int) : Nat → Nat → Int := if ¬ gN P = 0 ∧ A < 30 then m9_act c T A ((gTp P T : Nat) : Int) else c
def m9_undo (P : GD) (A : Nat) (c : Nat → Nat → Int) : Nat → Nat → Int := if ¬ gN P = 0 ∧ ¬ A = 0 then up2 (up2 c 49 39 ((A - 1 : Nat) : Int)) 49 38 (c 73 (A - 1)) else c
def m9_anew (P : GD) (A : Nat) (c : Nat → Nat → Int) : Nat → Nat → Int := if gN P = 0 then c else up2 (up2 c 49 38 (if 0 < A then c 73 0 else c 49 38)) 49 39 0
def cp9 (c : Nat → Nat → Int) (q : Nat) : Nat → Nat → Nat → Int
  | 0 => c
  | i + 1 => up2 (cp9 c q i) 76 (30 * q + i) (c 73 i)
theorem cp9_off (c : Nat → Nat → Int) (q : Nat) : ∀ i a k, a ≠ 76 → cp9 c q i a k = c a k := by
  intro i
  induction i with
  | zero => intro a k _; rfl
  | succ i ih => intro a k h; rw [cp9, up2_ne (Or.inl h)]; exact ih a k h
def cb9 (c : Nat → Nat → Int) (q : Nat) : Nat → Nat → Nat → Int
  | 0 => c
  | i + 1 => up2 (cb9 c q i) 73 i (c 76 (30 * q + i))
theorem cb9_off (c : Nat → Nat → Int) (q : Nat) : ∀ i a k, a ≠ 73 → cb9 c q i a k = c a k := by
  intro i
  induction i with
  | zero => intro a k _; rfl
  | succ i ih => intro a k h; rw [cb9, up2_ne (Or.inl h)]; exact ih a k h
def m9_image (P : GD) (T A : Nat) (x : Int) (c : Nat → Nat → Int) : Nat → Nat → Int := if ¬ gN P = 0 ∧ 0 ≤ x ∧ x < 3 then cp9 (up2 (up2 (up2 c 74 x.toNat ((T : Nat) : Int)) 75 x.toNat ((A : Nat) : Int)) 77 x.toNat 1) x.toNat 30 else c
def m9_back (P : GD) (x h : Int) (c : Nat → Nat → Int) : Nat → Nat → Int := if (¬ gN P = 0 ∧ 0 ≤ x ∧ x < 3) ∧ h = 1 then cb9 (up2 (up2 c 49 38 (c 74 x.toNat)) 49 39 (c 75 x.toNat)) x.toNat 30 else c
set_option maxHeartbeats 2000000 in
set_option maxRecDepth 20000 in
theorem g_X9_isFull_0 {G : GG} {j nw nx gn : Nat} {g : Nat → Sh} {c : Nat → Nat → Int} {post : Option AV → AM → Prop} {A9 : Nat} (hA9 : c 49 39 = ((A9 : Nat) : Int))  (hv : (A9 < 2147483648) ∧ (((A9 ≠ 30) → post (some (vi (0))) (S nw nx g, 78 + gn, c)) ∧ ((A9 = 30) → post (some (vi (1))) (S nw nx g, 78 + gn, c)))) :
    SW G (j + 0) mX9_isFull 0 [some (vr (49))] [] (S nw nx g, 78 + gn, c) B0 post := by
  refine sw_aload_n (dX9_isFull.at 0 rfl) rfl rfl ?_
  refine sw_getIE (w := ((A9 : Nat) : Int)) (dX9_isFull.at 1 rfl) fp_X9_199 (S_lt 49 (by decide)) (S_49 nw nx g) rfl hA9 ?_
  refine sw_bipush (dX9_isFull.at 2 rfl) (by decide) ?_
  refine sw_icmpN_ne A9 30 (tgt := 13) (dX9_isFull.at 3 rfl) (by decide) hv.1 (by decide) (fun q => ?_) (fun q => ?_)
  · replace hv := hv.2.1 q
    refine sw_iconst (dX9_isFull.at 6 rfl) ?_
    exact sw_zret (dX9_isFull.at 7 rfl) rfl (by decide) (Nat.le_refl _) (Nat.le_refl _) hv
  · replace hv := hv.2.2 q
    refine sw_iconst (dX9_isFull.at 4 rfl) ?_
    refine sw_goto (tgt := 14) (dX9_isFull.at 5 rfl) (by decide) ?_
    exact sw_zret (dX9_isFull.at 7 rfl) rfl (by decide) (Nat.le_refl _) (Nat.le_refl _) hv

set_option maxHeartbeats 2000000 in
theorem c_X9_isFull {G : GG} {j nw nx gn : Nat} {g : Nat → Sh} {c : Nat → Nat → Int} {post : Option AV → AM → Prop} {A9 : Nat} (hA9 : c 49 39 = ((A9 : Nat) : Int)) (p1 : A9 ≤ 30) (K : post (some (vi (bz (decide (A9 = 30))))) (S nw nx g, 78 + gn, c)) : SM G (j + 1) mX9_isFull [vr (49)] (S nw nx g, 78 + gn, c) 0 0 post := by
  refine sm_of wX9_isFull rfl (Nat.le_of_ble_eq_true rfl) ?_
  refine g_X9_isFull_0 hA9 ?_
  have K1 : ∀ v : Int, v = bz (decide (A9 = 30)) → post (some (vi v)) (S nw nx g, 78 + gn, c) := fun v h => h ▸ K
  refine ⟨?_, ⟨fun q => ?_, fun q => ?_⟩⟩
  all_goals first | omega | (refine K1 _ ?_; simp [bz, *]; done)

set_option maxHeartbeats 2000000 in
set_option maxRecDepth 20000 in
theorem g_X9_acts_0 {G : GG} {j nw nx gn : Nat} {g : Nat → Sh} {c : Nat → Nat → Int} {post : Option AV → AM → Prop} {w : Nat} {T9 : Nat} {A9 : Nat} (hT9 : c 49 38 = ((T9 : Nat) : Int)) (hA9 : c 49 39 = ((A9 : Nat) : Int))  (hv : (A9 < 30) ∧ (post none (S nw nx g, 78 + gn, (up2 (up2 (up2 c 73 A9 ((T9 : Nat) : Int)) 49 39 ((A9 + 1 : Nat) : Int)) 49 38 ((w : Nat) : Int))))) :
    SW G (j + 0) mX9_acts 0 [some (vr (49)), some (vl (((w : Nat) : Int))), none] [] (S nw nx g, 78 + gn, c) B0 post := by
  refine sw_aload_n (dX9_acts.at 0 rfl) rfl rfl ?_
  refine sw_getR (dX9_acts.at 1 rfl) fp_X9_86 (S_lt 49 (by decide)) (S_49 nw nx g) rfl rfl ?_
  refine sw_aload_n (dX9_acts.at 2 rfl) rfl rfl ?_
  refine sw_getIE (w := ((A9 : Nat) : Int)) (dX9_acts.at 3 rfl) fp_X9_199 (S_lt 49 (by decide)) (S_49 nw nx g) rfl hA9 ?_
  refine sw_aload_n (dX9_acts.at 4 rfl) rfl rfl ?_
  refine sw_getLE (w := ((T9 : Nat) : Int)) (dX9_acts.at 5 rfl) fp_X9_202 (S_lt 49 (by decide)) (S_49 nw nx g) rfl hT9 ?_
  refine sw_lastN A9 (dX9_acts.at 6 rfl) (S_lt 73 (by decide)) (S_73 nw nx g) (by decide) hv.1 ?_
  replace hv := hv.2
  refine sw_aload_n (dX9_acts.at 7 rfl) rfl rfl ?_
  refine sw_dup (dX9_acts.at 8 rfl) (fun _ h => by cases h) ?_
  refine sw_getIE (w := ((A9 : Nat) : Int)) (dX9_acts.at 9 rfl) fp_X9_199 (S_lt 49 (by decide)) (S_49 nw nx g) rfl ((up2_ne (c := c) (i := 73) (k := A9) (z := ((T9 : Nat) : Int)) (i' := 49) (k' := 39) (Or.inl (by decide))).trans hA9) ?_
  refine sw_iconst (dX9_acts.at 10 rfl) ?_
  refine sw_iadd (dX9_acts.at 11 rfl) ?_
  refine sw_topI (y := ((A9 + 1 : Nat) : Int)) (by first | rfl | (congr 1)) ?_
  refine sw_putI (dX9_acts.at 12 rfl) fp_X9_199 (S_lt 49 (by decide)) (S_49 nw nx g) rfl ?_
  refine sw_aload_n (dX9_acts.at 13 rfl) rfl rfl ?_
  refine sw_lload_n (dX9_acts.at 14 rfl) rfl rfl ?_
  refine sw_putL (dX9_acts.at 15 rfl) fp_X9_202 (S_lt 49 (by decide)) (S_49 nw nx g) rfl ?_
  exact sw_vret (dX9_acts.at 16 rfl) rfl (Nat.le_refl _) (Nat.le_refl _) hv

set_option maxHeartbeats 2000000 in
theorem c_X9_acts {G : GG} {j nw nx gn : Nat} {g : Nat → Sh} {c : Nat → Nat → Int} {post : Option AV → AM → Prop} {T9 : Nat} {A9 : Nat} {w : Nat} (hT9 : c 49 38 = ((T9 : Nat) : Int)) (hA9 : c 49 39 = ((A9 : Nat) : Int)) (p1 : A9 < 30) (K : post none (S nw nx g, 78 + gn, (up2 (up2 (up2 c 73 A9 ((T9 : Nat) : Int)) 49 39 ((A9 + 1 : Nat) : Int)) 49 38 ((w : Nat) : Int)))) : SM G (j + 1) mX9_acts [vr (49), vl (((w : Nat) : Int))] (S nw nx g, 78 + gn, c) 0 0 post := by
  refine sm_of wX9_acts rfl (Nat.le_of_ble_eq_true rfl) ?_
  refine g_X9_acts_0 hT9 hA9 ?_
  refine ⟨?_, ?_⟩
  all_goals first | omega | exact K

set_option maxHeartbeats 2000000 in
set_option maxRecDepth 20000 in
theorem g_X9_mark_n {G : GG} {j nw nx gn : Nat} {g : Nat → Sh} {c : Nat → Nat → Int} {post : Option AV → AM → Prop} {x : Nat} {P : GD} {T9 : Nat} {A9 : Nat} (hM : ML c P) (hV : GV P) (hT9 : c 49 38 = ((T9 : Nat) : Int)) (hA9 : c 49 39 = ((A9 : Nat) : Int))  (hv : (-2147483648 ≤ ((x : Nat) : Int) ∧ ((x : Nat) : Int) < 2147483648) ∧ ((((decide (0 ≤ ((x : Nat) : Int) ∧ ((x : Nat) : Int) < (gN P : Int))) = true) → (A9 ≤ 30) ∧ ((((decide (A9 = 30)) = false) → (x < 64) ∧ ((A9 < 30) ∧ (post (some (vi (bcJ (((T9 ^^^ (1 * 2 ^ x)) : Nat) : Int)))) (S nw nx g, 78 + gn, (up2 (up2 (up2 c 73 A9 ((T9 : Nat) : Int)) 49 39 ((A9 + 1 : Nat) : Int)) 49 38 (((T9 ^^^ (1 * 2 ^ x)) : Nat) : Int)))))) ∧ (((decide (A9 = 30)) = true) → post (some (vi ((-5)))) (S nw nx g, 78 + gn, c)))) ∧ (((decide (0 ≤ ((x : Nat) : Int) ∧ ((x : Nat) : Int) < (gN P : Int))) = false) → post (some (vi ((-2)))) (S nw nx g, 78 + gn, c)))) :
    SW G (j + 2) mX9_mark 0 [some (vr (49)), some (vi (((x : Nat) : Int)))] [] (S nw nx g, 78 + gn, c) B0 post := by
  refine sw_aload_n (dX9_mark.at 0 rfl) rfl rfl ?_
  refine sw_iload_n (dX9_mark.at 1 rfl) rfl rfl ?_
  refine sw_callV (B' := B0) (As := [vi (((x : Nat) : Int))]) (mc := 0) (ms := 0) (dX9_mark.at 2 rfl) lk_X9_251 (S_lt 49 (by decide)) (S_49 nw nx g) rfl rfl (Nat.le_of_ble_eq_true rfl) rfl (Nat.le_refl _) (Nat.le_refl _) ?_
  refine c_X9_isElement (x := ((x : Nat) : Int)) (j := j + 0) hM hV hv.1 ?_
  replace hv := hv.2
  refine sw_if_ne (tgt := 11) (dX9_mark.at 3 rfl) (by decide) (bz_rng _) (fun q => ?_) (fun q => ?_)
  · replace hv := hv.1 (bz_1 q)
    refine sw_aload_n (dX9_mark.at 6 rfl) rfl rfl ?_
    refine sw_callV (B' := B0) (As := []) (mc := 0) (ms := 0) (dX9_mark.at 7 rfl) lk_X9_404 (S_lt 49 (by decide)) (S_49 nw nx g) rfl rfl (Nat.le_of_ble_eq_true rfl) rfl (Nat.le_refl _) (Nat.le_refl _) ?_
    refine c_X9_isFull  (j := j + 1) hA9 hv.1 ?_
    replace hv := hv.2
    refine sw_if_eq (tgt := 21) (dX9_mark.at 8 rfl) (by decide) (bz_rng _) (fun q => ?_) (fun q => ?_)
    · replace hv := hv.1 (bz_0 q)
      refine sw_aload_n (dX9_mark.at 11 rfl) rfl rfl ?_
      refine sw_aload_n (dX9_mark.at 12 rfl) rfl rfl ?_
      refine sw_getLE (w := ((T9 : Nat) : Int)) (dX9_mark.at 13 rfl) fp_X9_202 (S_lt 49 (by decide)) (S_49 nw nx g) rfl hT9 ?_
      refine sw_lconst (z := 1) (dX9_mark.at 14 rfl) (by decide) ?_
      refine sw_iload_n (dX9_mark.at 15 rfl) rfl rfl ?_
      refine sw_lshlN 1 x (dX9_mark.at 16 rfl) hv.1 ?_
      replace hv := hv.2
      refine sw_lxorN T9 (1 * 2 ^ x) (dX9_mark.at 17 rfl) ?_
      refine sw_callV (B' := B0) (As := [vl (((T9 ^^^ (1 * 2 ^ x) : Nat) : Int))]) (mc := 0) (ms := 0) (dX9_mark.at 18 rfl) lk_X9_407 (S_lt 49 (by decide)) (S_49 nw nx g) rfl rfl (Nat.le_of_ble_eq_true rfl) rfl (Nat.le_refl _) (Nat.le_refl _) ?_
      refine c_X9_acts (w := (T9 ^^^ (1 * 2 ^ x))) (j := j + 1) hT9 hA9 hv.1 ?_
      replace hv := hv.2
      refine sw_aload_n (dX9_mark.at 19 rfl) rfl rfl ?_
      refine sw_getLE (w := (((T9 ^^^ (1 * 2 ^ x)) : Nat) : Int)) (dX9_mark.at 20 rfl) fp_X9_202 (S_lt 49 (by decide)) (S_49 nw nx g) rfl (up2_eq (up2 (up2 c 73 A9 ((T9 : Nat) : Int)) 49 39 ((A9 + 1 : Nat) : Int)) 49 38 (((T9 ^^^ (1 * 2 ^ x)) : Nat) : Int)) ?_
      refine sw_callS (post' := post) (B' := B0) (As := [vl ((((T9 ^^^ (1 * 2 ^ x)) : Nat) : Int))]) (mc := 0) (ms := 0) (dX9_mark.at 21 rfl) lk_X9_389 rfl rfl (Nat.le_of_ble_eq_true rfl) rfl (Nat.le_refl _) (Nat.le_refl _) ?_
      refine c_J13_bitCount_95d88 (z := (((T9 ^^^ (1 * 2 ^ x)) : Nat) : Int)) (j := j + 1)  ?_
      exact sw_iret (dX9_mark.at 22 rfl) rfl (Nat.le_refl _) (Nat.le_refl _) hv
    · replace hv := hv.2 (bz_n0 q)
      refine sw_bipush (dX9_mark.at 9 rfl) (by decide) ?_
      exact sw_iret (dX9_mark.at 10 rfl) rfl (Nat.le_refl _) (Nat.le_refl _) hv
  · replace hv := hv.2 (bz_n1 q)
    refine sw_bipush (dX9_mark.at 4 rfl) (by decide) ?_
    exact sw_iret (dX9_mark.at 5 rfl) rfl (Nat.le_refl _) (Nat.le_refl _) hv

set_option maxHeartbeats 2000000 in
set_option maxRecDepth 20000 in
theorem g_X9_mark_0 {G : GG} {j nw nx gn : Nat} {g : Nat → Sh} {c : Nat → Nat → Int} {post : Option AV → AM → Prop} {x : Int} {P : GD} {T9 : Nat} {A9 : Nat} (hM : ML c P) (hV : GV P) (hT9 : c 49 38 = ((T9 : Nat) : Int)) (hA9 : c 49 39 = ((A9 : Nat) : Int))  (hv : (-2147483648 ≤ x ∧ x < 2147483648) ∧ ((((decide (0 ≤ x ∧ x < (gN P : Int))) = true) → (A9 ≤ 30) ∧ ((((decide (A9 = 30)) = false) → SW G (j + 2) mX9_mark 30 [some (vr (49)), some (vi (x))] [vl (xor64 ((T9 : Nat) : Int) (shl64 1 x)), vr (49)] (S nw nx g, 78 + gn, c) B0 post) ∧ (((decide (A9 = 30)) = true) → post (some (vi ((-5)))) (S nw nx g, 78 + gn, c)))) ∧ (((decide (0 ≤ x ∧ x < (gN P : Int))) = false) → post (some (vi ((-2)))) (S nw nx g, 78 + gn, c)))) :
    SW G (j + 2) mX9_mark 0 [some (vr (49)), some (vi (x))] [] (S nw nx g, 78 + gn, c) B0 post := by
  refine sw_aload_n (dX9_mark.at 0 rfl) rfl rfl ?_
  refine sw_iload_n (dX9_mark.at 1 rfl) rfl rfl ?_
  refine sw_callV (B' := B0) (As := [vi (x)]) (mc := 0) (ms := 0) (dX9_mark.at 2 rfl) lk_X9_251 (S_lt 49 (by decide)) (S_49 nw nx g) rfl rfl (Nat.le_of_ble_eq_true rfl) rfl (Nat.le_refl _) (Nat.le_refl _) ?_
  refine c_X9_isElement (x := x) (j := j + 0) hM hV hv.1 ?_
  replace hv := hv.2
  refine sw_if_ne (tgt := 11) (dX9_mark.at 3 rfl) (by decide) (bz_rng _) (fun q => ?_) (fun q => ?_)
  · replace hv := hv.1 (bz_1 q)
    refine sw_aload_n (dX9_mark.at 6 rfl) rfl rfl ?_
    refine sw_callV (B' := B0) (As := []) (mc := 0) (ms := 0) (dX9_mark.at 7 rfl) lk_X9_404 (S_lt 49 (by decide)) (S_49 nw nx g) rfl rfl (Nat.le_of_ble_eq_true rfl) rfl (Nat.le_refl _) (Nat.le_refl _) ?_
    refine c_X9_isFull  (j := j + 1) hA9 hv.1 ?_
    replace hv := hv.2
    refine sw_if_eq (tgt := 21) (dX9_mark.at 8 rfl) (by decide) (bz_rng _) (fun q => ?_) (fun q => ?_)
    · replace hv := hv.1 (bz_0 q)
      refine sw_aload_n (dX9_mark.at 11 rfl) rfl rfl ?_
      refine sw_aload_n (dX9_mark.at 12 rfl) rfl rfl ?_
      refine sw_getLE (w := ((T9 : Nat) : Int)) (dX9_mark.at 13 rfl) fp_X9_202 (S_lt 49 (by decide)) (S_49 nw nx g) rfl hT9 ?_
      refine sw_lconst (z := 1) (dX9_mark.at 14 rfl) (by decide) ?_
      refine sw_iload_n (dX9_mark.at 15 rfl) rfl rfl ?_
      refine sw_lshl (dX9_mark.at 16 rfl) ?_
      refine sw_lxor (dX9_mark.at 17 rfl) ?_
      exact hv
    · replace hv := hv.2 (bz_n0 q)
      refine sw_bipush (dX9_mark.at 9 rfl) (by decide) ?_
      exact sw_iret (dX9_mark.at 10 rfl) rfl (Nat.le_refl _) (Nat.le_refl _) hv
  · replace hv := hv.2 (bz_n1 q)
    refine sw_bipush (dX9_mark.at 4 rfl) (by decide) ?_
    exact sw_iret (dX9_mark.at 5 rfl) rfl (Nat.le_refl _) (Nat.le_refl _) hv

def alD (P : GD) (T s : Nat) : Nat → Nat → Nat → Nat
  | 0, _, a => a
  | k + 1, z, a => alD P T s k (z + 1) (a ||| (if T.testBit z then 1 * 2 ^ gS P z s else 0))
theorem alD_add (P : GD) (T s : Nat) : ∀ k z, alD P T s k z (gAll P T s z) = gAll P T s (z + k) := by
  intro k
  induction k with
  | zero => intro z; rfl
  | succ k ih =>
    intro z
    rw [alD, show z + (k + 1) = z + 1 + k by omega, ← ih (z + 1)]
    congr 1
    rw [gAll]
    split
    · rfl
    · simp
theorem alD_U (P : GD) (T s n : Nat) : alD P T s n 0 0 = gAll P T s n := by
  have := alD_add P T s n 0
  rw [Nat.zero_add] at this
  exact this
set_option maxHeartbeats 2000000 in
set_option maxRecDepth 20000 in
theorem g_X9_shift_26 {G : GG} {j nw nx gn : Nat} {g : Nat → Sh} {c : Nat → Nat → Int} {post : Option AV → AM → Prop} {x : Nat} {P : GD} {T9 : Nat} {A9 : Nat} {z : Nat} {a : Nat} (hM : ML c P) (hV : GV P) (hT9 : c 49 38 = ((T9 : Nat) : Int)) (hA9 : c 49 39 = ((A9 : Nat) : Int))  (hv : (z < 2147483648) ∧ (gN P < 2147483648) ∧ (((gN P ≤ z) → (A9 < 30) ∧ (post (some (vi (bcJ ((a : Nat) : Int)))) (S nw nx g, 78 + gn, (up2 (up2 (up2 c 73 A9 ((T9 : Nat) : Int)) 49 39 ((A9 + 1 : Nat) : Int)) 49 38 ((a : Nat) : Int))))) ∧ ((¬ (gN P ≤ z)) → (T9 < 9223372036854775808) ∧ (z < 64) ∧ ((((T9.testBit z) = false) → SW G (j + 2) mX9_shift 26 [some (vr (49)), some (vi (((x : Nat) : Int))), some (vl (((a ||| 0 : Nat) : Int))), none, some (vi (((z + 1 : Nat) : Int)))] [] (S nw nx g, 78 + gn, c) B0 post) ∧ (((T9.testBit z) = true) → (z < gN P) ∧ (x < gR P) ∧ ((gS P z x < 64) ∧ (SW G (j + 2) mX9_shift 26 [some (vr (49)), some (vi (((x : Nat) : Int))), some (vl (((a ||| (1 * 2 ^ (gS P z x)) : Nat) : Int))), none, some (vi (((z + 1 : Nat) : Int)))] [] (S nw nx g, 78 + gn, c) B0 post))))))) :
    SW G (j + 2) mX9_shift 26 [some (vr (49)), some (vi (((x : Nat) : Int))), some (vl (((a : Nat) : Int))), none, some (vi (((z : Nat) : Int)))] [] (S nw nx g, 78 + gn, c) B0 post := by
  refine sw_iload (dX9_shift.at 15 rfl) rfl ?_
  refine sw_aload_n (dX9_shift.at 16 rfl) rfl rfl ?_
  refine sw_getIE (w := ((gN P : Nat) : Int)) (dX9_shift.at 17 rfl) fp_X9_196 (S_lt 49 (by decide)) (S_49 nw nx g) rfl hM.1.2.1 ?_
  refine sw_icmpN_ge z (gN P) (tgt := 73) (dX9_shift.at 18 rfl) (by decide) hv.1 hv.2.1 (fun q => ?_) (fun q => ?_)
  · replace hv := hv.2.2.1 q
    refine sw_aload_n (dX9_shift.at 41 rfl) rfl rfl ?_
    refine sw_lload_n (dX9_shift.at 42 rfl) rfl rfl ?_
    refine sw_callV (B' := B0) (As := [vl (((a : Nat) : Int))]) (mc := 0) (ms := 0) (dX9_shift.at 43 rfl) lk_X9_407 (S_lt 49 (by decide)) (S_49 nw nx g) rfl rfl (Nat.le_of_ble_eq_true rfl) rfl (Nat.le_refl _) (Nat.le_refl _) ?_
    refine c_X9_acts (w := a) (j := j + 1) hT9 hA9 hv.1 ?_
    replace hv := hv.2
    refine sw_aload_n (dX9_shift.at 44 rfl) rfl rfl ?_
    refine sw_getLE (w := ((a : Nat) : Int)) (dX9_shift.at 45 rfl) fp_X9_202 (S_lt 49 (by decide)) (S_49 nw nx g) rfl (up2_eq (up2 (up2 c 73 A9 ((T9 : Nat) : Int)) 49 39 ((A9 + 1 : Nat) : Int)) 49 38 ((a : Nat) : Int)) ?_
    refine sw_callS (post' := post) (B' := B0) (As := [vl (((a : Nat) : Int))]) (mc := 0) (ms := 0) (dX9_shift.at 46 rfl) lk_X9_389 rfl rfl (Nat.le_of_ble_eq_true rfl) rfl (Nat.le_refl _) (Nat.le_refl _) ?_
    refine c_J13_bitCount_95d88 (z := ((a : Nat) : Int)) (j := j + 1)  ?_
    exact sw_iret (dX9_shift.at 47 rfl) rfl (Nat.le_refl _) (Nat.le_refl _) hv
  · replace hv := hv.2.2.2 q
    refine sw_lload_n (dX9_shift.at 19 rfl) rfl rfl ?_
    refine sw_aload_n (dX9_shift.at 20 rfl) rfl rfl ?_
    refine sw_getLE (w := ((T9 : Nat) : Int)) (dX9_shift.at 21 rfl) fp_X9_202 (S_lt 49 (by decide)) (S_49 nw nx g) rfl hT9 ?_
    refine sw_iload (dX9_shift.at 22 rfl) rfl ?_
    refine sw_callS (post' := post) (B' := B0) (As := [vl (((T9 : Nat) : Int)), vi (((z : Nat) : Int))]) (mc := 0) (ms := 0) (dX9_shift.at 23 rfl) lk_X9_240 rfl rfl (Nat.le_of_ble_eq_true rfl) rfl (Nat.le_refl _) (Nat.le_refl _) ?_
    refine c_X9_has (s := T9) (i := z) (j := j + 1) hv.1 hv.2.1 ?_
    replace hv := hv.2.2
    refine sw_if_eq (tgt := 64) (dX9_shift.at 24 rfl) (by decide) (bz_rng _) (fun q => ?_) (fun q => ?_)
    · replace hv := hv.1 (bz_0 q)
      refine sw_lconst (z := 0) (dX9_shift.at 36 rfl) (by decide) ?_
      refine sw_lorN a 0 (dX9_shift.at 37 rfl) ?_
      refine sw_lstore_n (lo' := [some (vr (49)), some (vi (((x : Nat) : Int))), some (vl (((a ||| 0 : Nat) : Int))), none, some (vi (((z : Nat) : Int)))]) (dX9_shift.at 38 rfl) rfl (by decide) rfl ?_
      refine sw_iinc (lo' := [some (vr (49)), some (vi (((x : Nat) : Int))), some (vl (((a ||| 0 : Nat) : Int))), none, some (vi (((z + 1 : Nat) : Int)))]) (dX9_shift.at 39 rfl) rfl (by decide) rfl ?_
      refine sw_goto (tgt := 26) (dX9_shift.at 40 rfl) (by decide) ?_
      exact hv
    · replace hv := hv.2 (bz_n0 q)
      refine sw_lconst (z := 1) (dX9_shift.at 25 rfl) (by decide) ?_
      refine sw_aload_n (dX9_shift.at 26 rfl) rfl rfl ?_
      refine sw_getR (dX9_shift.at 27 rfl) fp_X9_26 (S_lt 49 (by decide)) (S_49 nw nx g) rfl rfl ?_
      refine sw_iconst (dX9_shift.at 28 rfl) ?_
      refine sw_iload (dX9_shift.at 29 rfl) rfl ?_
      refine sw_imul (dX9_shift.at 30 rfl) ?_
      refine sw_topI (y := ((5 * z : Nat) : Int)) (by first | rfl | (congr 1)) ?_
      refine sw_iload_n (dX9_shift.at 31 rfl) rfl rfl ?_
      refine sw_iadd (dX9_shift.at 32 rfl) ?_
      refine sw_topI (y := (((5 * z) + x : Nat) : Int)) (by first | rfl | (congr 1)) ?_
      refine sw_ialdN ((5 * z) + x) (w := ((gS P z x : Nat) : Int)) (dX9_shift.at 33 rfl) (S_lt 54 (by decide)) (S_54 nw nx g) (by decide) (GV_5 hV hv.1 hv.2.1) (ML_S hM hv.1 hv.2.1) ?_
      replace hv := hv.2.2
      refine sw_lshlN 1 (gS P z x) (dX9_shift.at 34 rfl) hv.1 ?_
      replace hv := hv.2
      refine sw_goto (tgt := 65) (dX9_shift.at 35 rfl) (by decide) ?_
      refine sw_lorN a (1 * 2 ^ (gS P z x)) (dX9_shift.at 37 rfl) ?_
      refine sw_lstore_n (lo' := [some (vr (49)), some (vi (((x : Nat) : Int))), some (vl (((a ||| (1 * 2 ^ (gS P z x)) : Nat) : Int))), none, some (vi (((z : Nat) : Int)))]) (dX9_shift.at 38 rfl) rfl (by decide) rfl ?_
      refine sw_iinc (lo' := [some (vr (49)), some (vi (((x : Nat) : Int))), some (vl (((a ||| (1 * 2 ^ (gS P z x)) : Nat) : Int))), none, some (vi (((z + 1 : Nat) : Int)))]) (dX9_shift.at 39 rfl) rfl (by decide) rfl ?_
      refine sw_goto (tgt := 26) (dX9_shift.at 40 rfl) (by decide) ?_
      exact hv

set_option maxHeartbeats 4000000 in
theorem lp_X9_shift_26 {G : GG} {j nw nx gn : Nat} {g : Nat → Sh} {c : Nat → Nat → Int} {post : Option AV → AM → Prop} {P : GD} {T9 : Nat} {A9 : Nat} {x : Nat} (hM : ML c P) (hV : GV P) (hT9 : c 49 38 = ((T9 : Nat) : Int)) (hA9 : c 49 39 = ((A9 : Nat) : Int)) (hx : x < gR P) (h2 : T9 < 2 ^ 60) (hA : A9 < 30) : ∀ (k : Nat) (z : Nat) (a : Nat), z + k = gN P → (post (some (vi (bcJ ((alD P T9 x k z a : Nat) : Int)))) (S nw nx g, 78 + gn, up2 (up2 (up2 c 73 A9 ((T9 : Nat) : Int)) 49 39 ((A9 + 1 : Nat) : Int)) 49 38 ((alD P T9 x k z a : Nat) : Int))) → SW G (j + 2) mX9_shift 26 [some (vr (49)), some (vi (((x : Nat) : Int))), some (vl (((a : Nat) : Int))), none, some (vi (((z : Nat) : Int)))] [] (S nw nx g, 78 + gn, c) B0 post := by
  intro k
  induction k with
  | zero =>
    intro z a hrel  K
    have h60 := GV_N hV
    have h63 := lt63 h2
    have s9 := fun h => hV.2.2.2.1 z x h hx
    simp only [alD] at K
    refine g_X9_shift_26 hM hV hT9 hA9  ?_
    refine ⟨?_, ?_, ⟨fun q => ⟨?_, ?_⟩, fun q => ⟨?_, ?_, ⟨fun q => ?_, fun q => ⟨?_, ?_, ⟨?_, ?_⟩⟩⟩⟩⟩⟩
    all_goals first | omega | exact K | (exfalso; omega) | (have := s9 (by omega); omega) | (simp only [*, if_true, if_false, ite_true, ite_false, Bool.false_eq_true, and_true, true_and, and_false, false_and, and_self, or_true, true_or, or_false, false_or, Bool.and_true, Bool.and_false, Bool.true_and, Bool.false_and, decide_true, decide_false, eq_self, not_true_eq_false, not_false_eq_true, ne_eq, reduceCtorEq] at K; exact K)
  | succ k ih =>
    intro z a hrel  K
    have h60 := GV_N hV
    have h63 := lt63 h2
    have s9 := fun h => hV.2.2.2.1 z x h hx
    simp only [alD] at K
    refine g_X9_shift_26 hM hV hT9 hA9  ?_
    refine ⟨?_, ?_, ⟨fun q => ⟨?_, ?_⟩, fun q => ⟨?_, ?_, ⟨fun q => ?_, fun q => ⟨?_, ?_, ⟨?_, ?_⟩⟩⟩⟩⟩⟩
    all_goals first | omega | assumption | (exfalso; omega) | (have := s9 (by omega); omega) | (simp only [*, if_true, if_false, ite_true, ite_false, Bool.false_eq_true, and_true, true_and, and_false, false_and, and_self, or_true, true_or, or_false, false_or, Bool.and_true, Bool.and_false, Bool.true_and, Bool.false_and, decide_true, decide_false, eq_self, not_true_eq_false, not_false_eq_true, ne_eq, reduceCtorEq] at K; first | exact K | exact ih _ _ (by omega)  K) | exact ih _ _ (by omega)  K

set_option maxHeartbeats 2000000 in
set_option maxRecDepth 20000 in
theorem g_X9_shift_n {G : GG} {j nw nx gn : Nat} {g : Nat → Sh} {c : Nat → Nat → Int} {post : Option AV → AM → Prop} {x : Nat} {P : GD} {T9 : Nat} {A9 : Nat} (hM : ML c P) (hV : GV P) (hT9 : c 49 38 = ((T9 : Nat) : Int)) (hA9 : c 49 39 = ((A9 : Nat) : Int))  (hv : (-2147483648 ≤ ((x : Nat) : Int) ∧ ((x : Nat) : Int) < 2147483648) ∧ ((((decide (0 ≤ ((x : Nat) : Int) ∧ ((x : Nat) : Int) < (gR P : Int))) = true) → (A9 ≤ 30) ∧ ((((decide (A9 = 30)) = false) → SW G (j + 2) mX9_shift 26 [some (vr (49)), some (vi (((x : Nat) : Int))), some (vl (0)), none, some (vi (0))] [] (S nw nx g, 78 + gn, c) B0 post) ∧ (((decide (A9 = 30)) = true) → post (some (vi ((-5)))) (S nw nx g, 78 + gn, c)))) ∧ (((decide (0 ≤ ((x : Nat) : Int) ∧ ((x : Nat) : Int) < (gR P : Int))) = false) → post (some (vi ((-2)))) (S nw nx g, 78 + gn, c)))) :
    SW G (j + 2) mX9_shift 0 [some (vr (49)), some (vi (((x : Nat) : Int))), none, none, none] [] (S nw nx g, 78 + gn, c) B0 post := by
  refine sw_aload_n (dX9_shift.at 0 rfl) rfl rfl ?_
  refine sw_iload_n (dX9_shift.at 1 rfl) rfl rfl ?_
  refine sw_callV (B' := B0) (As := [vi (((x : Nat) : Int))]) (mc := 0) (ms := 0) (dX9_shift.at 2 rfl) lk_X9_357 (S_lt 49 (by decide)) (S_49 nw nx g) rfl rfl (Nat.le_of_ble_eq_true rfl) rfl (Nat.le_refl _) (Nat.le_refl _) ?_
  refine c_X9_isLetter (x := ((x : Nat) : Int)) (j := j + 0) hM hV hv.1 ?_
  replace hv := hv.2
  refine sw_if_ne (tgt := 11) (dX9_shift.at 3 rfl) (by decide) (bz_rng _) (fun q => ?_) (fun q => ?_)
  · replace hv := hv.1 (bz_1 q)
    refine sw_aload_n (dX9_shift.at 6 rfl) rfl rfl ?_
    refine sw_callV (B' := B0) (As := []) (mc := 0) (ms := 0) (dX9_shift.at 7 rfl) lk_X9_404 (S_lt 49 (by decide)) (S_49 nw nx g) rfl rfl (Nat.le_of_ble_eq_true rfl) rfl (Nat.le_refl _) (Nat.le_refl _) ?_
    refine c_X9_isFull  (j := j + 1) hA9 hv.1 ?_
    replace hv := hv.2
    refine sw_if_eq (tgt := 21) (dX9_shift.at 8 rfl) (by decide) (bz_rng _) (fun q => ?_) (fun q => ?_)
    · replace hv := hv.1 (bz_0 q)
      refine sw_lconst (z := 0) (dX9_shift.at 11 rfl) (by decide) ?_
      refine sw_lstore_n (lo' := [some (vr (49)), some (vi (((x : Nat) : Int))), some (vl (0)), none, none]) (dX9_shift.at 12 rfl) rfl (by decide) rfl ?_
      refine sw_iconst (dX9_shift.at 13 rfl) ?_
      refine sw_istore (lo' := [some (vr (49)), some (vi (((x : Nat) : Int))), some (vl (0)), none, some (vi (0))]) (dX9_shift.at 14 rfl) (by decide) rfl ?_
      exact hv
    · replace hv := hv.2 (bz_n0 q)
      refine sw_bipush (dX9_shift.at 9 rfl) (by decide) ?_
      exact sw_iret (dX9_shift.at 10 rfl) rfl (Nat.le_refl _) (Nat.le_refl _) hv
  · replace hv := hv.2 (bz_n1 q)
    refine sw_bipush (dX9_shift.at 4 rfl) (by decide) ?_
    exact sw_iret (dX9_shift.at 5 rfl) rfl (Nat.le_refl _) (Nat.le_refl _) hv

set_option maxHeartbeats 2000000 in
set_option maxRecDepth 20000 in
theorem g_X9_shift_0 {G : GG} {j nw nx gn : Nat} {g : Nat → Sh} {c : Nat → Nat → Int} {post : Option AV → AM → Prop} {x : Int} {P : GD} {T9 : Nat} {A9 : Nat} (hM : ML c P) (hV : GV P) (hT9 : c 49 38 = ((T9 : Nat) : Int)) (hA9 : c 49 39 = ((A9 : Nat) : Int))  (hv : (-2147483648 ≤ x ∧ x < 2147483648) ∧ ((((decide (0 ≤ x ∧ x < (gR P : Int))) = true) → (A9 ≤ 30) ∧ ((((decide (A9 = 30)) = false) → SW G (j + 2) mX9_shift 26 [some (vr (49)), some (vi (x)), some (vl (0)), none, some (vi (0))] [] (S nw nx g, 78 + gn, c) B0 post) ∧ (((decide (A9 = 30)) = true) → post (some (vi ((-5)))) (S nw nx g, 78 + gn, c)))) ∧ (((decide (0 ≤ x ∧ x < (gR P : Int))) = false) → post (some (vi ((-2)))) (S nw nx g, 78 + gn, c)))) :
    SW G (j + 2) mX9_shift 0 [some (vr (49)), some (vi (x)), none, none, none] [] (S nw nx g, 78 + gn, c) B0 post := by
  refine sw_aload_n (dX9_shift.at 0 rfl) rfl rfl ?_
  refine sw_iload_n (dX9_shift.at 1 rfl) rfl rfl ?_
  refine sw_callV (B' := B0) (As := [vi (x)]) (mc := 0) (ms := 0) (dX9_shift.at 2 rfl) lk_X9_357 (S_lt 49 (by decide)) (S_49 nw nx g) rfl rfl (Nat.le_of_ble_eq_true rfl) rfl (Nat.le_refl _) (Nat.le_refl _) ?_
  refine c_X9_isLetter (x := x) (j := j + 0) hM hV hv.1 ?_
  replace hv := hv.2
  refine sw_if_ne (tgt := 11) (dX9_shift.at 3 rfl) (by decide) (bz_rng _) (fun q => ?_) (fun q => ?_)
  · replace hv := hv.1 (bz_1 q)
    refine sw_aload_n (dX9_shift.at 6 rfl) rfl rfl ?_
    refine sw_callV (B' := B0) (As := []) (mc := 0) (ms := 0) (dX9_shift.at 7 rfl) lk_X9_404 (S_lt 49 (by decide)) (S_49 nw nx g) rfl rfl (Nat.le_of_ble_eq_true rfl) rfl (Nat.le_refl _) (Nat.le_refl _) ?_
    refine c_X9_isFull  (j := j + 1) hA9 hv.1 ?_
    replace hv := hv.2
    refine sw_if_eq (tgt := 21) (dX9_shift.at 8 rfl) (by decide) (bz_rng _) (fun q => ?_) (fun q => ?_)
    · replace hv := hv.1 (bz_0 q)
      refine sw_lconst (z := 0) (dX9_shift.at 11 rfl) (by decide) ?_
      refine sw_lstore_n (lo' := [some (vr (49)), some (vi (x)), some (vl (0)), none, none]) (dX9_shift.at 12 rfl) rfl (by decide) rfl ?_
      refine sw_iconst (dX9_shift.at 13 rfl) ?_
      refine sw_istore (lo' := [some (vr (49)), some (vi (x)), some (vl (0)), none, some (vi (0))]) (dX9_shift.at 14 rfl) (by decide) rfl ?_
      exact hv
    · replace hv := hv.2 (bz_n0 q)
      refine sw_bipush (dX9_shift.at 9 rfl) (by decide) ?_
      exact sw_iret (dX9_shift.at 10 rfl) rfl (Nat.le_refl _) (Nat.le_refl _) hv
  · replace hv := hv.2 (bz_n1 q)
    refine sw_bipush (dX9_shift.at 4 rfl) (by decide) ?_
    exact sw_iret (dX9_shift.at 5 rfl) rfl (Nat.le_refl _) (Nat.le_refl _) hv

set_option maxHeartbeats 4000000 in
theorem c_X9_mark {G : GG} {j nw nx gn : Nat} {g : Nat → Sh} {c : Nat → Nat → Int} {post : Option AV → AM → Prop} {P : GD} {T9 A9 : Nat} {x : Int} (hM : ML c P) (hV : GV P) (hT9 : c 49 38 = ((T9 : Nat) : Int)) (hA9 : c 49 39 = ((A9 : Nat) : Int)) (h2 : T9 < 2 ^ 60) (hA30 : A9 ≤ 30) (p1 : -2147483648 ≤ x ∧ x < 2147483648) (K : post (some (vi (q_mark P T9 A9 x))) (S nw nx g, 78 + gn, m9_mark P T9 A9 x c)) : SM G (j + 3) mX9_mark [vr 49, vi x] (S nw nx g, 78 + gn, c) 0 0 post := by
  refine sm_of wX9_mark rfl (Nat.le_of_ble_eq_true rfl) ?_
  have hN60 := GV_N hV
  have hR5 := GV_R hV
  by_cases hv : 0 ≤ x ∧ x < (gN P : Int)
  · obtain ⟨x, rfl⟩ : ∃ n : Nat, x = (n : Int) := ⟨x.toNat, by omega⟩
    by_cases ha : A9 < 30
    · rw [q_mark, m9_mark, if_pos hv, if_pos ha, if_pos ⟨hv, ha⟩, m9_act] at K
      simp only [Int.toNat_natCast] at K
      refine g_X9_mark_n hM hV hT9 hA9 ?_
      refine ⟨?_, ⟨fun q => ⟨?_, ⟨fun q => ⟨?_, ⟨?_, ?_⟩⟩, fun q => ?_⟩⟩, fun q => ?_⟩⟩
      all_goals (try simp only [decide_eq_true_eq, decide_eq_false_iff_not] at *)
      all_goals first | omega | exact K | assumption | (exfalso; omega)
    · rw [q_mark, m9_mark, if_pos hv, if_neg ha, if_neg (fun h => ha h.2)] at K
      refine g_X9_mark_n hM hV hT9 hA9 ?_
      refine ⟨?_, ⟨fun q => ⟨?_, ⟨fun q => ⟨?_, ⟨?_, ?_⟩⟩, fun q => ?_⟩⟩, fun q => ?_⟩⟩
      all_goals (try simp only [decide_eq_true_eq, decide_eq_false_iff_not] at *)
      all_goals first | omega | exact K | assumption | (exfalso; omega)
  · rw [q_mark, m9_mark, if_neg hv, if_neg (fun h => hv h.1)] at K
    refine g_X9_mark_0 hM hV hT9 hA9 ?_
    refine ⟨?_, ⟨fun q => ⟨?_, ⟨fun q => ?_, fun q => ?_⟩⟩, fun q => ?_⟩⟩
    all_goals (try simp only [decide_eq_true_eq, decide_eq_false_iff_not] at *)
    all_goals first | omega | exact K | assumption | (exfalso; omega)

set_option maxHeartbeats 4000000 in
theorem c_X9_shift {G : GG} {j nw nx gn : Nat} {g : Nat → Sh} {c : Nat → Nat → Int} {post : Option AV → AM → Prop} {P : GD} {T9 A9 : Nat} {x : Int} (hM : ML c P) (hV : GV P) (hT9 : c 49 38 = ((T9 : Nat) : Int)) (hA9 : c 49 39 = ((A9 : Nat) : Int)) (h2 : T9 < 2 ^ 60) (hA30 : A9 ≤ 30) (p1 : -2147483648 ≤ x ∧ x < 2147483648) (K : post (some (vi (q_shift P T9 A9 x))) (S nw nx g, 78 + gn, m9_shift P T9 A9 x c)) : SM G (j + 3) mX9_shift [vr 49, vi x] (S nw nx g, 78 + gn, c) 0 0 post := by
  refine sm_of wX9_shift rfl (Nat.le_of_ble_eq_true rfl) ?_
  have hN60 := GV_N hV
  have hR5 := GV_R hV
  by_cases hv : 0 ≤ x ∧ x < (gR P : Int)
  · obtain ⟨x, rfl⟩ : ∃ n : Nat, x = (n : Int) := ⟨x.toNat, by omega⟩
    by_cases ha : A9 < 30
    · rw [q_shift, m9_shift, if_pos hv, if_pos ha, if_pos ⟨hv, ha⟩, m9_act] at K
      simp only [Int.toNat_natCast] at K
      refine g_X9_shift_n hM hV hT9 hA9 ?_
      refine ⟨?_, ⟨fun q => ⟨?_, ⟨fun q => ?_, fun q => ?_⟩⟩, fun q => ?_⟩⟩
      all_goals (try simp only [decide_eq_true_eq, decide_eq_false_iff_not] at *)
      all_goals first | omega | exact K | assumption | (exfalso; omega) | exact lp_X9_shift_26 hM hV hT9 hA9 (by omega) h2 ha (gN P) 0 0 (by omega) (by rw [alD_U]; exact K)
    · rw [q_shift, m9_shift, if_pos hv, if_neg ha, if_neg (fun h => ha h.2)] at K
      refine g_X9_shift_n hM hV hT9 hA9 ?_
      refine ⟨?_, ⟨fun q => ⟨?_, ⟨fun q => ?_, fun q => ?_⟩⟩, fun q => ?_⟩⟩
      all_goals (try simp only [decide_eq_true_eq, decide_eq_false_iff_not] at *)
      all_goals first | omega | exact K | assumption | (exfalso; omega)
  · rw [q_shift, m9_shift, if_neg hv, if_neg (fun h => hv h.1)] at K
    refine g_X9_shift_0 hM hV hT9 hA9 ?_
    refine ⟨?_, ⟨fun q => ⟨?_, ⟨fun q => ?_, fun q => ?_⟩⟩, fun q => ?_⟩⟩
    all_goals (try simp only [decide_eq_true_eq, decide_eq_false_iff_not] at *)
    all_goals first | omega | exact K | assumption | (exfalso; omega)

set_option maxHeartbeats 2000000 in
set_option maxRecDepth 20000 in
theorem g_X9_thin_0 {G : GG} {j nw nx gn : Nat} {g : Nat → Sh} {c : Nat → Nat → Int} {post : Option AV → AM → Prop} {P : GD} {T : PT} {T9 : Nat} {A9 : Nat} (hM : ML c P) (hV : GV P) (hC : GC P) (hG : GP P T) (hR : RR P T c) (hT9 : c 49 38 = ((T9 : Nat) : Int)) (hA9 : c 49 39 = ((A9 : Nat) : Int)) (hd : hDn P)  (hv : (((decide (0 < gN P)) = true) → (A9 ≤ 30) ∧ ((((decide (A9 = 30)) = false) → (T9 < 2 ^ 60) ∧ (∀ c_1 : Nat → Nat → Int, (SD c c_1 ∧ RD P T c_1) → (A9 < 30) ∧ (post (some (vi ((bcJ ((T9 : Nat) : Int)) - (bcJ (((gTp P T9) : Nat) : Int))))) (S nw nx g, 78 + gn, (up2 (up2 (up2 c_1 73 A9 ((T9 : Nat) : Int)) 49 39 ((A9 + 1 : Nat) : Int)) 49 38 (((gTp P T9) : Nat) : Int)))))) ∧ (((decide (A9 = 30)) = true) → post (some (vi ((-5)))) (S nw nx g, 78 + gn, c)))) ∧ (((decide (0 < gN P)) = false) → post (some (vi ((-2)))) (S nw nx g, 78 + gn, c))) :
    SW G (j + 5) mX9_thin 0 [some (vr (49)), none] [] (S nw nx g, 78 + gn, c) B0 post := by
  refine sw_aload_n (dX9_thin.at 0 rfl) rfl rfl ?_
  refine sw_callV (B' := B0) (As := []) (mc := 0) (ms := 0) (dX9_thin.at 1 rfl) lk_X9_248 (S_lt 49 (by decide)) (S_49 nw nx g) rfl rfl (Nat.le_of_ble_eq_true rfl) rfl (Nat.le_refl _) (Nat.le_refl _) ?_
  refine c_X9_is  (j := j + 4) hM hV ?_
  refine sw_if_ne (tgt := 10) (dX9_thin.at 2 rfl) (by decide) (bz_rng _) (fun q => ?_) (fun q => ?_)
  · replace hv := hv.1 (bz_1 q)
    refine sw_aload_n (dX9_thin.at 5 rfl) rfl rfl ?_
    refine sw_callV (B' := B0) (As := []) (mc := 0) (ms := 0) (dX9_thin.at 6 rfl) lk_X9_404 (S_lt 49 (by decide)) (S_49 nw nx g) rfl rfl (Nat.le_of_ble_eq_true rfl) rfl (Nat.le_refl _) (Nat.le_refl _) ?_
    refine c_X9_isFull  (j := j + 4) hA9 hv.1 ?_
    replace hv := hv.2
    refine sw_if_eq (tgt := 20) (dX9_thin.at 7 rfl) (by decide) (bz_rng _) (fun q => ?_) (fun q => ?_)
    · replace hv := hv.1 (bz_0 q)
      refine sw_aload_n (dX9_thin.at 10 rfl) rfl rfl ?_
      refine sw_getLE (w := ((T9 : Nat) : Int)) (dX9_thin.at 11 rfl) fp_X9_202 (S_lt 49 (by decide)) (S_49 nw nx g) rfl hT9 ?_
      refine sw_callS (post' := post) (B' := B0) (As := [vl (((T9 : Nat) : Int))]) (mc := 0) (ms := 0) (dX9_thin.at 12 rfl) lk_X9_389 rfl rfl (Nat.le_of_ble_eq_true rfl) rfl (Nat.le_refl _) (Nat.le_refl _) ?_
      refine c_J13_bitCount_95d88 (z := ((T9 : Nat) : Int)) (j := j + 4)  ?_
      refine sw_istore_n (lo' := [some (vr (49)), some (vi (bcJ ((T9 : Nat) : Int)))]) (dX9_thin.at 13 rfl) rfl (by decide) rfl ?_
      refine sw_aload_n (dX9_thin.at 14 rfl) rfl rfl ?_
      refine sw_aload_n (dX9_thin.at 15 rfl) rfl rfl ?_
      refine sw_aload_n (dX9_thin.at 16 rfl) rfl rfl ?_
      refine sw_getLE (w := ((T9 : Nat) : Int)) (dX9_thin.at 17 rfl) fp_X9_202 (S_lt 49 (by decide)) (S_49 nw nx g) rfl hT9 ?_
      refine sw_callV (B' := B0) (As := [vl (((T9 : Nat) : Int))]) (mc := 0) (ms := 0) (dX9_thin.at 18 rfl) lk_X9_400 (S_lt 49 (by decide)) (S_49 nw nx g) rfl rfl (Nat.le_of_ble_eq_true rfl) rfl (Nat.le_refl _) (Nat.le_refl _) ?_
      refine c_X9_highest (T := T) (O := T9) (j := j + 0) hM hV hC hG hR hd hv.1 (fun c_1 h_1 => ?_)
      replace hv := hv.2 c_1 h_1
      refine sw_callV (B' := B0) (As := [vl (((gTp P T9 : Nat) : Int))]) (mc := 0) (ms := 0) (dX9_thin.at 19 rfl) lk_X9_407 (S_lt 49 (by decide)) (S_49 nw nx g) rfl rfl (Nat.le_of_ble_eq_true rfl) rfl (Nat.le_refl _) (Nat.le_refl _) ?_
      refine c_X9_acts (w := (gTp P T9)) (j := j + 4) ((h_1.1.2 38 (by decide) (by decide)).trans hT9) ((h_1.1.2 39 (by decide) (by decide)).trans hA9) hv.1 ?_
      replace hv := hv.2
      refine sw_iload_n (dX9_thin.at 20 rfl) rfl rfl ?_
      refine sw_aload_n (dX9_thin.at 21 rfl) rfl rfl ?_
      refine sw_getLE (w := (((gTp P T9) : Nat) : Int)) (dX9_thin.at 22 rfl) fp_X9_202 (S_lt 49 (by decide)) (S_49 nw nx g) rfl (up2_eq (up2 (up2 c_1 73 A9 ((T9 : Nat) : Int)) 49 39 ((A9 + 1 : Nat) : Int)) 49 38 (((gTp P T9) : Nat) : Int)) ?_
      refine sw_callS (post' := post) (B' := B0) (As := [vl ((((gTp P T9) : Nat) : Int))]) (mc := 0) (ms := 0) (dX9_thin.at 23 rfl) lk_X9_389 rfl rfl (Nat.le_of_ble_eq_true rfl) rfl (Nat.le_refl _) (Nat.le_refl _) ?_
      refine c_J13_bitCount_95d88 (z := (((gTp P T9) : Nat) : Int)) (j := j + 4)  ?_
      refine sw_isub (dX9_thin.at 24 rfl) ?_
      exact sw_iret (dX9_thin.at 25 rfl) rfl (Nat.le_refl _) (Nat.le_refl _) hv
    · replace hv := hv.2 (bz_n0 q)
      refine sw_bipush (dX9_thin.at 8 rfl) (by decide) ?_
      exact sw_iret (dX9_thin.at 9 rfl) rfl (Nat.le_refl _) (Nat.le_refl _) hv
  · replace hv := hv.2 (bz_n1 q)
    refine sw_bipush (dX9_thin.at 3 rfl) (by decide) ?_
    exact sw_iret (dX9_thin.at 4 rfl) rfl (Nat.le_refl _) (Nat.le_refl _) hv

set_option maxHeartbeats 4000000 in
theorem c_X9_thin {G : GG} {j nw nx gn : Nat} {g : Nat → Sh} {c : Nat → Nat → Int} {post : Option AV → AM → Prop} {P : GD} {T : PT} {T9 A9 : Nat} (hM : ML c P) (hV : GV P) (hC : GC P) (hG : GP P T) (hR : RR P T c) (hT9 : c 49 38 = ((T9 : Nat) : Int)) (hA9 : c 49 39 = ((A9 : Nat) : Int)) (hd : hDn P) (h2 : T9 < 2 ^ 60) (hA30 : A9 ≤ 30) (K : ∀ c2 : Nat → Nat → Int, (SD c c2 ∧ RR P T c2) → post (some (vi (q_thin P T9 A9))) (S nw nx g, 78 + gn, m9_thin P T9 A9 c2)) : SM G (j + 6) mX9_thin [vr 49] (S nw nx g, 78 + gn, c) 0 0 post := by
  refine sm_of wX9_thin rfl (Nat.le_of_ble_eq_true rfl) ?_
  refine g_X9_thin_0 hM hV hC hG hR hT9 hA9 hd ?_
  by_cases h0 : gN P = 0
  · have K := K c ⟨SD_rf, hR⟩
    rw [q_thin, m9_thin, if_pos h0, if_neg (fun h => h.1 h0)] at K
    refine ⟨fun q => ⟨?_, ⟨fun q => ⟨?_, fun c_1 h_1 => ⟨?_, ?_⟩⟩, fun q => ?_⟩⟩, fun q => ?_⟩
    all_goals (try simp only [decide_eq_true_eq, decide_eq_false_iff_not] at *)
    all_goals first | omega | exact K | assumption | (exfalso; omega)
  · by_cases ha : A9 < 30
    · refine ⟨fun q => ⟨?_, ⟨fun q => ⟨?_, fun c_1 h_1 => ⟨?_, ?_⟩⟩, fun q => ?_⟩⟩, fun q => ?_⟩
      all_goals (try simp only [decide_eq_true_eq, decide_eq_false_iff_not] at *)
      all_goals first | omega | assumption | (exfalso; omega) | (have K := K c_1 ⟨h_1.1, Or.inr h_1.2⟩; rw [q_thin, m9_thin, if_neg h0, if_pos ha, if_pos ⟨h0, ha⟩, m9_act] at K; exact K)
    · have K := K c ⟨SD_rf, hR⟩
      rw [q_thin, m9_thin, if_neg h0, if_neg ha, if_neg (fun h => ha h.2)] at K
      refine ⟨fun q => ⟨?_, ⟨fun q => ⟨?_, fun c_1 h_1 => ⟨?_, ?_⟩⟩, fun q => ?_⟩⟩, fun q => ?_⟩
      all_goals (try simp only [decide_eq_true_eq, decide_eq_false_iff_not] at *)
      all_goals first | omega | exact K | assumption | (exfalso; omega)

set_option maxHeartbeats 2000000 in
set_option maxRecDepth 20000 in
theorem g_X9_undo_0 {G : GG} {j nw nx gn : Nat} {g : Nat → Sh} {c : Nat → Nat → Int} {post : Option AV → AM → Prop} {P : GD} {T9 : Nat} {A9 : Nat} (hM : ML c P) (hV : GV P) (hT9 : c 49 38 = ((T9 : Nat) : Int)) (hA9 : c 49 39 = ((A9 : Nat) : Int))  (hv : (((decide (0 < gN P)) = true) → (A9 < 2147483648) ∧ (((A9 ≠ 0) → (1 ≤ A9) ∧ ((A9 - 1 < 30) ∧ (post (some (vi (((A9 - 1 : Nat) : Int)))) (S nw nx g, 78 + gn, (up2 (up2 c 49 39 ((A9 - 1 : Nat) : Int)) 49 38 ((up2 c 49 39 ((A9 - 1 : Nat) : Int)) 73 (A9 - 1))))))) ∧ ((A9 = 0) → post (some (vi ((-5)))) (S nw nx g, 78 + gn, c)))) ∧ (((decide (0 < gN P)) = false) → post (some (vi ((-2)))) (S nw nx g, 78 + gn, c))) :
    SW G (j + 1) mX9_undo 0 [some (vr (49))] [] (S nw nx g, 78 + gn, c) B0 post := by
  refine sw_aload_n (dX9_undo.at 0 rfl) rfl rfl ?_
  refine sw_callV (B' := B0) (As := []) (mc := 0) (ms := 0) (dX9_undo.at 1 rfl) lk_X9_248 (S_lt 49 (by decide)) (S_49 nw nx g) rfl rfl (Nat.le_of_ble_eq_true rfl) rfl (Nat.le_refl _) (Nat.le_refl _) ?_
  refine c_X9_is  (j := j + 0) hM hV ?_
  refine sw_if_ne (tgt := 10) (dX9_undo.at 2 rfl) (by decide) (bz_rng _) (fun q => ?_) (fun q => ?_)
  · replace hv := hv.1 (bz_1 q)
    refine sw_aload_n (dX9_undo.at 5 rfl) rfl rfl ?_
    refine sw_getIE (w := ((A9 : Nat) : Int)) (dX9_undo.at 6 rfl) fp_X9_199 (S_lt 49 (by decide)) (S_49 nw nx g) rfl hA9 ?_
    refine sw_ifN_ne A9 (tgt := 20) (dX9_undo.at 7 rfl) (by decide) hv.1 (fun q => ?_) (fun q => ?_)
    · replace hv := hv.2.1 q
      refine sw_aload_n (dX9_undo.at 10 rfl) rfl rfl ?_
      refine sw_dup (dX9_undo.at 11 rfl) (fun _ h => by cases h) ?_
      refine sw_getIE (w := ((A9 : Nat) : Int)) (dX9_undo.at 12 rfl) fp_X9_199 (S_lt 49 (by decide)) (S_49 nw nx g) rfl hA9 ?_
      refine sw_iconst (dX9_undo.at 13 rfl) ?_
      refine sw_isub (dX9_undo.at 14 rfl) ?_
      refine sw_topI (y := ((A9 - 1 : Nat) : Int)) (congrArg _ (Int.ofNat_sub hv.1).symm) ?_
      replace hv := hv.2
      refine sw_putI (dX9_undo.at 15 rfl) fp_X9_199 (S_lt 49 (by decide)) (S_49 nw nx g) rfl ?_
      refine sw_aload_n (dX9_undo.at 16 rfl) rfl rfl ?_
      refine sw_aload_n (dX9_undo.at 17 rfl) rfl rfl ?_
      refine sw_getR (dX9_undo.at 18 rfl) fp_X9_86 (S_lt 49 (by decide)) (S_49 nw nx g) rfl rfl ?_
      refine sw_aload_n (dX9_undo.at 19 rfl) rfl rfl ?_
      refine sw_getIE (w := ((A9 - 1 : Nat) : Int)) (dX9_undo.at 20 rfl) fp_X9_199 (S_lt 49 (by decide)) (S_49 nw nx g) rfl (up2_eq c 49 39 ((A9 - 1 : Nat) : Int)) ?_
      refine sw_laldN (A9 - 1) (dX9_undo.at 21 rfl) (S_lt 73 (by decide)) (S_73 nw nx g) (by decide) hv.1 rfl ?_
      replace hv := hv.2
      refine sw_putL (dX9_undo.at 22 rfl) fp_X9_202 (S_lt 49 (by decide)) (S_49 nw nx g) rfl ?_
      refine sw_aload_n (dX9_undo.at 23 rfl) rfl rfl ?_
      refine sw_getIE (w := ((A9 - 1 : Nat) : Int)) (dX9_undo.at 24 rfl) fp_X9_199 (S_lt 49 (by decide)) (S_49 nw nx g) rfl ((up2_ne (c := (up2 c 49 39 ((A9 - 1 : Nat) : Int))) (i := 49) (k := 38) (z := ((up2 c 49 39 ((A9 - 1 : Nat) : Int)) 73 (A9 - 1))) (i' := 49) (k' := 39) (Or.inr (by decide))).trans (up2_eq c 49 39 ((A9 - 1 : Nat) : Int))) ?_
      exact sw_iret (dX9_undo.at 25 rfl) rfl (Nat.le_refl _) (Nat.le_refl _) hv
    · replace hv := hv.2.2 q
      refine sw_bipush (dX9_undo.at 8 rfl) (by decide) ?_
      exact sw_iret (dX9_undo.at 9 rfl) rfl (Nat.le_refl _) (Nat.le_refl _) hv
  · replace hv := hv.2 (bz_n1 q)
    refine sw_bipush (dX9_undo.at 3 rfl) (by decide) ?_
    exact sw_iret (dX9_undo.at 4 rfl) rfl (Nat.le_refl _) (Nat.le_refl _) hv

set_option maxHeartbeats 2000000 in
set_option maxRecDepth 20000 in
theorem g_X9_anew_0 {G : GG} {j nw nx gn : Nat} {g : Nat → Sh} {c : Nat → Nat → Int} {post : Option AV → AM → Prop} {P : GD} {T9 : Nat} {A9 : Nat} (hM : ML c P) (hV : GV P) (hT9 : c 49 38 = ((T9 : Nat) : Int)) (hA9 : c 49 39 = ((A9 : Nat) : Int))  (hv : (((decide (0 < gN P)) = true) → (A9 < 2147483648) ∧ (((((A9 : Nat) : Int) ≤ 0) → post (some (vi (((A9 : Nat) : Int)))) (S nw nx g, 78 + gn, (up2 (up2 c 49 38 (c 49 38)) 49 39 0))) ∧ ((¬ (((A9 : Nat) : Int) ≤ 0)) → post (some (vi (((A9 : Nat) : Int)))) (S nw nx g, 78 + gn, (up2 (up2 c 49 38 (c 73 0)) 49 39 0))))) ∧ (((decide (0 < gN P)) = false) → post (some (vi ((-2)))) (S nw nx g, 78 + gn, c))) :
    SW G (j + 1) mX9_anew 0 [some (vr (49)), none] [] (S nw nx g, 78 + gn, c) B0 post := by
  refine sw_aload_n (dX9_anew.at 0 rfl) rfl rfl ?_
  refine sw_callV (B' := B0) (As := []) (mc := 0) (ms := 0) (dX9_anew.at 1 rfl) lk_X9_248 (S_lt 49 (by decide)) (S_49 nw nx g) rfl rfl (Nat.le_of_ble_eq_true rfl) rfl (Nat.le_refl _) (Nat.le_refl _) ?_
  refine c_X9_is  (j := j + 0) hM hV ?_
  refine sw_if_ne (tgt := 10) (dX9_anew.at 2 rfl) (by decide) (bz_rng _) (fun q => ?_) (fun q => ?_)
  · replace hv := hv.1 (bz_1 q)
    refine sw_aload_n (dX9_anew.at 5 rfl) rfl rfl ?_
    refine sw_getIE (w := ((A9 : Nat) : Int)) (dX9_anew.at 6 rfl) fp_X9_199 (S_lt 49 (by decide)) (S_49 nw nx g) rfl hA9 ?_
    refine sw_istore_n (lo' := [some (vr (49)), some (vi (((A9 : Nat) : Int)))]) (dX9_anew.at 7 rfl) rfl (by decide) rfl ?_
    refine sw_aload_n (dX9_anew.at 8 rfl) rfl rfl ?_
    refine sw_iload_n (dX9_anew.at 9 rfl) rfl rfl ?_
    refine sw_if_le (tgt := 29) (dX9_anew.at 10 rfl) (by decide) (nrng hv.1) (fun q => ?_) (fun q => ?_)
    · replace hv := hv.2.1 q
      refine sw_aload_n (dX9_anew.at 16 rfl) rfl rfl ?_
      refine sw_getL (dX9_anew.at 17 rfl) fp_X9_202 (S_lt 49 (by decide)) (S_49 nw nx g) rfl ?_
      refine sw_putL (dX9_anew.at 18 rfl) fp_X9_202 (S_lt 49 (by decide)) (S_49 nw nx g) rfl ?_
      refine sw_aload_n (dX9_anew.at 19 rfl) rfl rfl ?_
      refine sw_iconst (dX9_anew.at 20 rfl) ?_
      refine sw_putI (dX9_anew.at 21 rfl) fp_X9_199 (S_lt 49 (by decide)) (S_49 nw nx g) rfl ?_
      refine sw_iload_n (dX9_anew.at 22 rfl) rfl rfl ?_
      exact sw_iret (dX9_anew.at 23 rfl) rfl (Nat.le_refl _) (Nat.le_refl _) hv
    · replace hv := hv.2.2 q
      refine sw_aload_n (dX9_anew.at 11 rfl) rfl rfl ?_
      refine sw_getR (dX9_anew.at 12 rfl) fp_X9_86 (S_lt 49 (by decide)) (S_49 nw nx g) rfl rfl ?_
      refine sw_iconst (dX9_anew.at 13 rfl) ?_
      refine sw_laldN 0 (dX9_anew.at 14 rfl) (S_lt 73 (by decide)) (S_73 nw nx g) (by decide) (by decide) rfl ?_
      refine sw_goto (tgt := 33) (dX9_anew.at 15 rfl) (by decide) ?_
      refine sw_putL (dX9_anew.at 18 rfl) fp_X9_202 (S_lt 49 (by decide)) (S_49 nw nx g) rfl ?_
      refine sw_aload_n (dX9_anew.at 19 rfl) rfl rfl ?_
      refine sw_iconst (dX9_anew.at 20 rfl) ?_
      refine sw_putI (dX9_anew.at 21 rfl) fp_X9_199 (S_lt 49 (by decide)) (S_49 nw nx g) rfl ?_
      refine sw_iload_n (dX9_anew.at 22 rfl) rfl rfl ?_
      exact sw_iret (dX9_anew.at 23 rfl) rfl (Nat.le_refl _) (Nat.le_refl _) hv
  · replace hv := hv.2 (bz_n1 q)
    refine sw_bipush (dX9_anew.at 3 rfl) (by decide) ?_
    exact sw_iret (dX9_anew.at 4 rfl) rfl (Nat.le_refl _) (Nat.le_refl _) hv

set_option maxHeartbeats 4000000 in
theorem c_X9_undo {G : GG} {j nw nx gn : Nat} {g : Nat → Sh} {c : Nat → Nat → Int} {post : Option AV → AM → Prop} {P : GD} {T9 A9 : Nat} (hM : ML c P) (hV : GV P) (hT9 : c 49 38 = ((T9 : Nat) : Int)) (hA9 : c 49 39 = ((A9 : Nat) : Int)) (hA30 : A9 ≤ 30) (K : post (some (vi (q_undo P A9))) (S nw nx g, 78 + gn, m9_undo P A9 c)) : SM G (j + 2) mX9_undo [vr 49] (S nw nx g, 78 + gn, c) 0 0 post := by
  refine sm_of wX9_undo rfl (Nat.le_of_ble_eq_true rfl) ?_
  refine g_X9_undo_0 hM hV hT9 hA9 ?_
  by_cases h0 : gN P = 0
  · rw [q_undo, m9_undo, if_pos h0, if_neg (fun h => h.1 h0)] at K
    refine ⟨fun q => ⟨?_, ⟨fun q => ⟨?_, ⟨?_, ?_⟩⟩, fun q => ?_⟩⟩, fun q => ?_⟩
    all_goals (try simp only [decide_eq_true_eq, decide_eq_false_iff_not] at *)
    all_goals first | omega | exact K | assumption | (exfalso; omega)
  · by_cases ha : A9 = 0
    · rw [q_undo, m9_undo, if_neg h0, if_pos ha, if_neg (fun h => h.2 ha)] at K
      refine ⟨fun q => ⟨?_, ⟨fun q => ⟨?_, ⟨?_, ?_⟩⟩, fun q => ?_⟩⟩, fun q => ?_⟩
      all_goals (try simp only [decide_eq_true_eq, decide_eq_false_iff_not] at *)
      all_goals first | omega | exact K | assumption | (exfalso; omega)
    · rw [q_undo, m9_undo, if_neg h0, if_neg ha, if_pos ⟨h0, ha⟩] at K
      rw [show c 73 (A9 - 1) = up2 c 49 39 ((A9 - 1 : Nat) : Int) 73 (A9 - 1) from (up2_ne (Or.inl (by decide))).symm] at K
      refine ⟨fun q => ⟨?_, ⟨fun q => ⟨?_, ⟨?_, ?_⟩⟩, fun q => ?_⟩⟩, fun q => ?_⟩
      all_goals (try simp only [decide_eq_true_eq, decide_eq_false_iff_not] at *)
      all_goals first | omega | exact K | assumption | (exfalso; omega)
set_option maxHeartbeats 4000000 in
theorem c_X9_anew {G : GG} {j nw nx gn : Nat} {g : Nat → Sh} {c : Nat → Nat → Int} {post : Option AV → AM → Prop} {P : GD} {T9 A9 : Nat} (hM : ML c P) (hV : GV P) (hT9 : c 49 38 = ((T9 : Nat) : Int)) (hA9 : c 49 39 = ((A9 : Nat) : Int)) (hA30 : A9 ≤ 30) (K : post (some (vi (q_anew P A9))) (S nw nx g, 78 + gn, m9_anew P A9 c)) : SM G (j + 2) mX9_anew [vr 49] (S nw nx g, 78 + gn, c) 0 0 post := by
  refine sm_of wX9_anew rfl (Nat.le_of_ble_eq_true rfl) ?_
  refine g_X9_anew_0 hM hV hT9 hA9 ?_
  by_cases h0 : gN P = 0
  · rw [q_anew, m9_anew, if_pos h0, if_pos h0] at K
    refine ⟨fun q => ⟨?_, ⟨fun q => ?_, fun q => ?_⟩⟩, fun q => ?_⟩
    all_goals (try simp only [decide_eq_true_eq, decide_eq_false_iff_not] at *)
    all_goals first | omega | exact K | assumption | (exfalso; omega)
  · rw [q_anew, m9_anew, if_neg h0, if_neg h0] at K
    refine ⟨fun q => ⟨?_, ⟨fun q => ?_, fun q => ?_⟩⟩, fun q => ?_⟩
    all_goals (try simp only [decide_eq_true_eq, decide_eq_false_iff_not] at *)
    all_goals first | omega | (rw [if_pos (by omega)] at K; exact K) | (rw [if_neg (by omega)] at K; exact K) | assumption | (exfalso; omega)

set_option maxHeartbeats 2000000 in
set_option maxRecDepth 20000 in
theorem g_X9_image_51 {G : GG} {j nw nx gn : Nat} {g : Nat → Sh} {c : Nat → Nat → Int} {post : Option AV → AM → Prop} {x : Nat} {i : Nat}  (hv : (i < 2147483648) ∧ (((30 ≤ i) → post (some (vi (0))) (S nw nx g, 78 + gn, c)) ∧ ((¬ (30 ≤ i)) → (i < 30) ∧ (((30 * x) + i < 90) ∧ (SW G (j + 1) mX9_image 51 [some (vr (49)), some (vi (((x : Nat) : Int))), some (vi (((i + 1 : Nat) : Int)))] [] (S nw nx g, 78 + gn, (up2 c 76 ((30 * x) + i) (c 73 i))) B0 post))))) :
    SW G (j + 1) mX9_image 51 [some (vr (49)), some (vi (((x : Nat) : Int))), some (vi (((i : Nat) : Int)))] [] (S nw nx g, 78 + gn, c) B0 post := by
  refine sw_iload_n (dX9_image.at 30 rfl) rfl rfl ?_
  refine sw_bipush (dX9_image.at 31 rfl) (by decide) ?_
  refine sw_icmpN_ge i 30 (tgt := 80) (dX9_image.at 32 rfl) (by decide) hv.1 (by decide) (fun q => ?_) (fun q => ?_)
  · replace hv := hv.2.1 q
    refine sw_iconst (dX9_image.at 47 rfl) ?_
    exact sw_iret (dX9_image.at 48 rfl) rfl (Nat.le_refl _) (Nat.le_refl _) hv
  · replace hv := hv.2.2 q
    refine sw_aload_n (dX9_image.at 33 rfl) rfl rfl ?_
    refine sw_getR (dX9_image.at 34 rfl) fp_X9_95 (S_lt 49 (by decide)) (S_49 nw nx g) rfl rfl ?_
    refine sw_bipush (dX9_image.at 35 rfl) (by decide) ?_
    refine sw_iload_n (dX9_image.at 36 rfl) rfl rfl ?_
    refine sw_imul (dX9_image.at 37 rfl) ?_
    refine sw_topI (y := ((30 * x : Nat) : Int)) (by first | rfl | (congr 1)) ?_
    refine sw_iload_n (dX9_image.at 38 rfl) rfl rfl ?_
    refine sw_iadd (dX9_image.at 39 rfl) ?_
    refine sw_topI (y := (((30 * x) + i : Nat) : Int)) (by first | rfl | (congr 1)) ?_
    refine sw_aload_n (dX9_image.at 40 rfl) rfl rfl ?_
    refine sw_getR (dX9_image.at 41 rfl) fp_X9_86 (S_lt 49 (by decide)) (S_49 nw nx g) rfl rfl ?_
    refine sw_iload_n (dX9_image.at 42 rfl) rfl rfl ?_
    refine sw_laldN i (dX9_image.at 43 rfl) (S_lt 73 (by decide)) (S_73 nw nx g) (by decide) hv.1 rfl ?_
    replace hv := hv.2
    refine sw_lastN ((30 * x) + i) (dX9_image.at 44 rfl) (S_lt 76 (by decide)) (S_76 nw nx g) (by decide) hv.1 ?_
    replace hv := hv.2
    refine sw_iinc (lo' := [some (vr (49)), some (vi (((x : Nat) : Int))), some (vi (((i + 1 : Nat) : Int)))]) (dX9_image.at 45 rfl) rfl (by decide) rfl ?_
    refine sw_goto (tgt := 51) (dX9_image.at 46 rfl) (by decide) ?_
    exact hv

set_option maxHeartbeats 2000000 in
set_option maxRecDepth 20000 in
theorem g_X9_image_n {G : GG} {j nw nx gn : Nat} {g : Nat → Sh} {c : Nat → Nat → Int} {post : Option AV → AM → Prop} {x : Nat} {P : GD} {T9 : Nat} {A9 : Nat} (hM : ML c P) (hV : GV P) (hT9 : c 49 38 = ((T9 : Nat) : Int)) (hA9 : c 49 39 = ((A9 : Nat) : Int))  (hv : (((decide (0 < gN P)) = false) → post (some (vi ((-2)))) (S nw nx g, 78 + gn, c)) ∧ (((decide (0 < gN P)) = true) → (x < 2147483648) ∧ ((-9223372036854775808 ≤ (((x : Nat) : Int) : Int) ∧ (((x : Nat) : Int) : Int) < 9223372036854775808) ∧ (-9223372036854775808 ≤ (0 : Int) ∧ (0 : Int) < 9223372036854775808) ∧ (-9223372036854775808 ≤ (2 : Int) ∧ (2 : Int) < 9223372036854775808) ∧ ((((decide (0 ≤ ((x : Nat) : Int) ∧ ((x : Nat) : Int) ≤ 2)) = true) → (x < 3) ∧ ((x < 3) ∧ ((x < 3) ∧ (SW G (j + 1) mX9_image 51 [some (vr (49)), some (vi (((x : Nat) : Int))), some (vi (0))] [] (S nw nx g, 78 + gn, (up2 (up2 (up2 c 74 x ((T9 : Nat) : Int)) 75 x ((A9 : Nat) : Int)) 77 x 1)) B0 post)))) ∧ (((decide (0 ≤ ((x : Nat) : Int) ∧ ((x : Nat) : Int) ≤ 2)) = false) → post (some (vi ((-2)))) (S nw nx g, 78 + gn, c)))))) :
    SW G (j + 1) mX9_image 0 [some (vr (49)), some (vi (((x : Nat) : Int))), none] [] (S nw nx g, 78 + gn, c) B0 post := by
  refine sw_aload_n (dX9_image.at 0 rfl) rfl rfl ?_
  refine sw_callV (B' := B0) (As := []) (mc := 0) (ms := 0) (dX9_image.at 1 rfl) lk_X9_248 (S_lt 49 (by decide)) (S_49 nw nx g) rfl rfl (Nat.le_of_ble_eq_true rfl) rfl (Nat.le_refl _) (Nat.le_refl _) ?_
  refine c_X9_is  (j := j + 0) hM hV ?_
  refine sw_if_eq (tgt := 19) (dX9_image.at 2 rfl) (by decide) (bz_rng _) (fun q => ?_) (fun q => ?_)
  · replace hv := hv.1 (bz_0 q)
    refine sw_bipush (dX9_image.at 9 rfl) (by decide) ?_
    exact sw_iret (dX9_image.at 10 rfl) rfl (Nat.le_refl _) (Nat.le_refl _) hv
  · replace hv := hv.2 (bz_n0 q)
    refine sw_iload_n (dX9_image.at 3 rfl) rfl rfl ?_
    refine sw_i2l (dX9_image.at 4 rfl) (nrng hv.1) ?_
    replace hv := hv.2
    refine sw_lconst (z := 0) (dX9_image.at 5 rfl) (by decide) ?_
    refine sw_ldc2 (z := 2) (dX9_image.at 6 rfl) kc_X9_342 (by decide) ?_
    refine sw_callS (post' := post) (B' := B0) (As := [vl (((x : Nat) : Int)), vl (0), vl (2)]) (mc := 0) (ms := 0) (dX9_image.at 7 rfl) lk_X9_104 rfl rfl (Nat.le_of_ble_eq_true rfl) rfl (Nat.le_refl _) (Nat.le_refl _) ?_
    refine c_X9_in (u := ((x : Nat) : Int)) (lo := 0) (hi := 2) (j := j + 0) hv.1 hv.2.1 hv.2.2.1 ?_
    replace hv := hv.2.2.2
    refine sw_if_ne (tgt := 22) (dX9_image.at 8 rfl) (by decide) (bz_rng _) (fun q => ?_) (fun q => ?_)
    · replace hv := hv.1 (bz_1 q)
      refine sw_aload_n (dX9_image.at 11 rfl) rfl rfl ?_
      refine sw_getR (dX9_image.at 12 rfl) fp_X9_89 (S_lt 49 (by decide)) (S_49 nw nx g) rfl rfl ?_
      refine sw_iload_n (dX9_image.at 13 rfl) rfl rfl ?_
      refine sw_aload_n (dX9_image.at 14 rfl) rfl rfl ?_
      refine sw_getLE (w := ((T9 : Nat) : Int)) (dX9_image.at 15 rfl) fp_X9_202 (S_lt 49 (by decide)) (S_49 nw nx g) rfl hT9 ?_
      refine sw_lastN x (dX9_image.at 16 rfl) (S_lt 74 (by decide)) (S_74 nw nx g) (by decide) hv.1 ?_
      replace hv := hv.2
      refine sw_aload_n (dX9_image.at 17 rfl) rfl rfl ?_
      refine sw_getR (dX9_image.at 18 rfl) fp_X9_92 (S_lt 49 (by decide)) (S_49 nw nx g) rfl rfl ?_
      refine sw_iload_n (dX9_image.at 19 rfl) rfl rfl ?_
      refine sw_aload_n (dX9_image.at 20 rfl) rfl rfl ?_
      refine sw_getIE (w := ((A9 : Nat) : Int)) (dX9_image.at 21 rfl) fp_X9_199 (S_lt 49 (by decide)) (S_49 nw nx g) rfl ((up2_ne (c := c) (i := 74) (k := x) (z := ((T9 : Nat) : Int)) (i' := 49) (k' := 39) (Or.inl (by decide))).trans hA9) ?_
      refine sw_iastN x (dX9_image.at 22 rfl) (S_lt 75 (by decide)) (S_75 nw nx g) (by decide) hv.1 ?_
      replace hv := hv.2
      refine sw_aload_n (dX9_image.at 23 rfl) rfl rfl ?_
      refine sw_getR (dX9_image.at 24 rfl) fp_X9_98 (S_lt 49 (by decide)) (S_49 nw nx g) rfl rfl ?_
      refine sw_iload_n (dX9_image.at 25 rfl) rfl rfl ?_
      refine sw_iconst (dX9_image.at 26 rfl) ?_
      refine sw_zastN x (dX9_image.at 27 rfl) (S_lt 77 (by decide)) (S_77 nw nx g) (by decide) hv.1 (by decide) ?_
      replace hv := hv.2
      refine sw_iconst (dX9_image.at 28 rfl) ?_
      refine sw_istore_n (lo' := [some (vr (49)), some (vi (((x : Nat) : Int))), some (vi (0))]) (dX9_image.at 29 rfl) rfl (by decide) rfl ?_
      exact hv
    · replace hv := hv.2 (bz_n1 q)
      refine sw_bipush (dX9_image.at 9 rfl) (by decide) ?_
      exact sw_iret (dX9_image.at 10 rfl) rfl (Nat.le_refl _) (Nat.le_refl _) hv

set_option maxHeartbeats 2000000 in
set_option maxRecDepth 20000 in
theorem g_X9_image_0 {G : GG} {j nw nx gn : Nat} {g : Nat → Sh} {c : Nat → Nat → Int} {post : Option AV → AM → Prop} {x : Int} {P : GD} {T9 : Nat} {A9 : Nat} (hM : ML c P) (hV : GV P) (hT9 : c 49 38 = ((T9 : Nat) : Int)) (hA9 : c 49 39 = ((A9 : Nat) : Int))  (hv : (((decide (0 < gN P)) = false) → post (some (vi ((-2)))) (S nw nx g, 78 + gn, c)) ∧ (((decide (0 < gN P)) = true) → (-2147483648 ≤ x ∧ x < 2147483648) ∧ ((-9223372036854775808 ≤ (x : Int) ∧ (x : Int) < 9223372036854775808) ∧ (-9223372036854775808 ≤ (0 : Int) ∧ (0 : Int) < 9223372036854775808) ∧ (-9223372036854775808 ≤ (2 : Int) ∧ (2 : Int) < 9223372036854775808) ∧ ((((decide (0 ≤ x ∧ x ≤ 2)) = true) → (0 ≤ x) ∧ (x < 3) ∧ ((0 ≤ x) ∧ (x < 3) ∧ ((0 ≤ x) ∧ (x < 3) ∧ (SW G (j + 1) mX9_image 51 [some (vr (49)), some (vi (x)), some (vi (0))] [] (S nw nx g, 78 + gn, (up2 (up2 (up2 c 74 x.toNat ((T9 : Nat) : Int)) 75 x.toNat ((A9 : Nat) : Int)) 77 x.toNat 1)) B0 post)))) ∧ (((decide (0 ≤ x ∧ x ≤ 2)) = false) → post (some (vi ((-2)))) (S nw nx g, 78 + gn, c)))))) :
    SW G (j + 1) mX9_image 0 [some (vr (49)), some (vi (x)), none] [] (S nw nx g, 78 + gn, c) B0 post := by
  refine sw_aload_n (dX9_image.at 0 rfl) rfl rfl ?_
  refine sw_callV (B' := B0) (As := []) (mc := 0) (ms := 0) (dX9_image.at 1 rfl) lk_X9_248 (S_lt 49 (by decide)) (S_49 nw nx g) rfl rfl (Nat.le_of_ble_eq_true rfl) rfl (Nat.le_refl _) (Nat.le_refl _) ?_
  refine c_X9_is  (j := j + 0) hM hV ?_
  refine sw_if_eq (tgt := 19) (dX9_image.at 2 rfl) (by decide) (bz_rng _) (fun q => ?_) (fun q => ?_)
  · replace hv := hv.1 (bz_0 q)
    refine sw_bipush (dX9_image.at 9 rfl) (by decide) ?_
    exact sw_iret (dX9_image.at 10 rfl) rfl (Nat.le_refl _) (Nat.le_refl _) hv
  · replace hv := hv.2 (bz_n0 q)
    refine sw_iload_n (dX9_image.at 3 rfl) rfl rfl ?_
    refine sw_i2l (dX9_image.at 4 rfl) hv.1 ?_
    replace hv := hv.2
    refine sw_lconst (z := 0) (dX9_image.at 5 rfl) (by decide) ?_
    refine sw_ldc2 (z := 2) (dX9_image.at 6 rfl) kc_X9_342 (by decide) ?_
    refine sw_callS (post' := post) (B' := B0) (As := [vl (x), vl (0), vl (2)]) (mc := 0) (ms := 0) (dX9_image.at 7 rfl) lk_X9_104 rfl rfl (Nat.le_of_ble_eq_true rfl) rfl (Nat.le_refl _) (Nat.le_refl _) ?_
    refine c_X9_in (u := x) (lo := 0) (hi := 2) (j := j + 0) hv.1 hv.2.1 hv.2.2.1 ?_
    replace hv := hv.2.2.2
    refine sw_if_ne (tgt := 22) (dX9_image.at 8 rfl) (by decide) (bz_rng _) (fun q => ?_) (fun q => ?_)
    · replace hv := hv.1 (bz_1 q)
      refine sw_aload_n (dX9_image.at 11 rfl) rfl rfl ?_
      refine sw_getR (dX9_image.at 12 rfl) fp_X9_89 (S_lt 49 (by decide)) (S_49 nw nx g) rfl rfl ?_
      refine sw_iload_n (dX9_image.at 13 rfl) rfl rfl ?_
      refine sw_aload_n (dX9_image.at 14 rfl) rfl rfl ?_
      refine sw_getLE (w := ((T9 : Nat) : Int)) (dX9_image.at 15 rfl) fp_X9_202 (S_lt 49 (by decide)) (S_49 nw nx g) rfl hT9 ?_
      refine sw_last (dX9_image.at 16 rfl) (S_lt 74 (by decide)) (S_74 nw nx g) (by decide) hv.1 hv.2.1 ?_
      replace hv := hv.2.2
      refine sw_aload_n (dX9_image.at 17 rfl) rfl rfl ?_
      refine sw_getR (dX9_image.at 18 rfl) fp_X9_92 (S_lt 49 (by decide)) (S_49 nw nx g) rfl rfl ?_
      refine sw_iload_n (dX9_image.at 19 rfl) rfl rfl ?_
      refine sw_aload_n (dX9_image.at 20 rfl) rfl rfl ?_
      refine sw_getIE (w := ((A9 : Nat) : Int)) (dX9_image.at 21 rfl) fp_X9_199 (S_lt 49 (by decide)) (S_49 nw nx g) rfl ((up2_ne (c := c) (i := 74) (k := x.toNat) (z := ((T9 : Nat) : Int)) (i' := 49) (k' := 39) (Or.inl (by decide))).trans hA9) ?_
      refine sw_iast (dX9_image.at 22 rfl) (S_lt 75 (by decide)) (S_75 nw nx g) (by decide) hv.1 hv.2.1 ?_
      replace hv := hv.2.2
      refine sw_aload_n (dX9_image.at 23 rfl) rfl rfl ?_
      refine sw_getR (dX9_image.at 24 rfl) fp_X9_98 (S_lt 49 (by decide)) (S_49 nw nx g) rfl rfl ?_
      refine sw_iload_n (dX9_image.at 25 rfl) rfl rfl ?_
      refine sw_iconst (dX9_image.at 26 rfl) ?_
      refine sw_zast (dX9_image.at 27 rfl) (S_lt 77 (by decide)) (S_77 nw nx g) (by decide) hv.1 hv.2.1 (by decide) ?_
      replace hv := hv.2.2
      refine sw_iconst (dX9_image.at 28 rfl) ?_
      refine sw_istore_n (lo' := [some (vr (49)), some (vi (x)), some (vi (0))]) (dX9_image.at 29 rfl) rfl (by decide) rfl ?_
      exact hv
    · replace hv := hv.2 (bz_n1 q)
      refine sw_bipush (dX9_image.at 9 rfl) (by decide) ?_
      exact sw_iret (dX9_image.at 10 rfl) rfl (Nat.le_refl _) (Nat.le_refl _) hv

set_option maxHeartbeats 2000000 in
set_option maxRecDepth 20000 in
theorem g_X9_back_56 {G : GG} {j nw nx gn : Nat} {g : Nat → Sh} {c : Nat → Nat → Int} {post : Option AV → AM → Prop} {x : Nat} {i : Nat}  (hv : (i < 2147483648) ∧ (((30 ≤ i) → post (some (vi (0))) (S nw nx g, 78 + gn, c)) ∧ ((¬ (30 ≤ i)) → ((30 * x) + i < 90) ∧ ((i < 30) ∧ (SW G (j + 1) mX9_back 56 [some (vr (49)), some (vi (((x : Nat) : Int))), some (vi (((i + 1 : Nat) : Int)))] [] (S nw nx g, 78 + gn, (up2 c 73 i (c 76 ((30 * x) + i)))) B0 post))))) :
    SW G (j + 1) mX9_back 56 [some (vr (49)), some (vi (((x : Nat) : Int))), some (vi (((i : Nat) : Int)))] [] (S nw nx g, 78 + gn, c) B0 post := by
  refine sw_iload_n (dX9_back.at 32 rfl) rfl rfl ?_
  refine sw_bipush (dX9_back.at 33 rfl) (by decide) ?_
  refine sw_icmpN_ge i 30 (tgt := 85) (dX9_back.at 34 rfl) (by decide) hv.1 (by decide) (fun q => ?_) (fun q => ?_)
  · replace hv := hv.2.1 q
    refine sw_iconst (dX9_back.at 49 rfl) ?_
    exact sw_iret (dX9_back.at 50 rfl) rfl (Nat.le_refl _) (Nat.le_refl _) hv
  · replace hv := hv.2.2 q
    refine sw_aload_n (dX9_back.at 35 rfl) rfl rfl ?_
    refine sw_getR (dX9_back.at 36 rfl) fp_X9_86 (S_lt 49 (by decide)) (S_49 nw nx g) rfl rfl ?_
    refine sw_iload_n (dX9_back.at 37 rfl) rfl rfl ?_
    refine sw_aload_n (dX9_back.at 38 rfl) rfl rfl ?_
    refine sw_getR (dX9_back.at 39 rfl) fp_X9_95 (S_lt 49 (by decide)) (S_49 nw nx g) rfl rfl ?_
    refine sw_bipush (dX9_back.at 40 rfl) (by decide) ?_
    refine sw_iload_n (dX9_back.at 41 rfl) rfl rfl ?_
    refine sw_imul (dX9_back.at 42 rfl) ?_
    refine sw_topI (y := ((30 * x : Nat) : Int)) (by first | rfl | (congr 1)) ?_
    refine sw_iload_n (dX9_back.at 43 rfl) rfl rfl ?_
    refine sw_iadd (dX9_back.at 44 rfl) ?_
    refine sw_topI (y := (((30 * x) + i : Nat) : Int)) (by first | rfl | (congr 1)) ?_
    refine sw_laldN ((30 * x) + i) (dX9_back.at 45 rfl) (S_lt 76 (by decide)) (S_76 nw nx g) (by decide) hv.1 rfl ?_
    replace hv := hv.2
    refine sw_lastN i (dX9_back.at 46 rfl) (S_lt 73 (by decide)) (S_73 nw nx g) (by decide) hv.1 ?_
    replace hv := hv.2
    refine sw_iinc (lo' := [some (vr (49)), some (vi (((x : Nat) : Int))), some (vi (((i + 1 : Nat) : Int)))]) (dX9_back.at 47 rfl) rfl (by decide) rfl ?_
    refine sw_goto (tgt := 56) (dX9_back.at 48 rfl) (by decide) ?_
    exact hv

set_option maxHeartbeats 2000000 in
set_option maxRecDepth 20000 in
theorem g_X9_back_n {G : GG} {j nw nx gn : Nat} {g : Nat → Sh} {c : Nat → Nat → Int} {post : Option AV → AM → Prop} {x : Nat} {P : GD} {T9 : Nat} {A9 : Nat} (hM : ML c P) (hV : GV P) (hT9 : c 49 38 = ((T9 : Nat) : Int)) (hA9 : c 49 39 = ((A9 : Nat) : Int))  (hv : (((decide (0 < gN P)) = false) → post (some (vi ((-2)))) (S nw nx g, 78 + gn, c)) ∧ (((decide (0 < gN P)) = true) → (x < 2147483648) ∧ ((-9223372036854775808 ≤ (((x : Nat) : Int) : Int) ∧ (((x : Nat) : Int) : Int) < 9223372036854775808) ∧ (-9223372036854775808 ≤ (0 : Int) ∧ (0 : Int) < 9223372036854775808) ∧ (-9223372036854775808 ≤ (2 : Int) ∧ (2 : Int) < 9223372036854775808) ∧ ((((decide (0 ≤ ((x : Nat) : Int) ∧ ((x : Nat) : Int) ≤ 2)) = true) → (x < 3) ∧ ((-2147483648 ≤ c 77 x ∧ c 77 x < 2147483648) ∧ (((c 77 x ≠ 0) → (x < 3) ∧ ((x < 3) ∧ (SW G (j + 1) mX9_back 56 [some (vr (49)), some (vi (((x : Nat) : Int))), some (vi (0))] [] (S nw nx g, 78 + gn, (up2 (up2 c 49 38 (c 74 x)) 49 39 ((up2 c 49 38 (c 74 x)) 75 x))) B0 post))) ∧ ((c 77 x = 0) → post (some (vi ((-6)))) (S nw nx g, 78 + gn, c))))) ∧ (((decide (0 ≤ ((x : Nat) : Int) ∧ ((x : Nat) : Int) ≤ 2)) = false) → post (some (vi ((-2)))) (S nw nx g, 78 + gn, c)))))) :
    SW G (j + 1) mX9_back 0 [some (vr (49)), some (vi (((x : Nat) : Int))), none] [] (S nw nx g, 78 + gn, c) B0 post := by
  refine sw_aload_n (dX9_back.at 0 rfl) rfl rfl ?_
  refine sw_callV (B' := B0) (As := []) (mc := 0) (ms := 0) (dX9_back.at 1 rfl) lk_X9_248 (S_lt 49 (by decide)) (S_49 nw nx g) rfl rfl (Nat.le_of_ble_eq_true rfl) rfl (Nat.le_refl _) (Nat.le_refl _) ?_
  refine c_X9_is  (j := j + 0) hM hV ?_
  refine sw_if_eq (tgt := 19) (dX9_back.at 2 rfl) (by decide) (bz_rng _) (fun q => ?_) (fun q => ?_)
  · replace hv := hv.1 (bz_0 q)
    refine sw_bipush (dX9_back.at 9 rfl) (by decide) ?_
    exact sw_iret (dX9_back.at 10 rfl) rfl (Nat.le_refl _) (Nat.le_refl _) hv
  · replace hv := hv.2 (bz_n0 q)
    refine sw_iload_n (dX9_back.at 3 rfl) rfl rfl ?_
    refine sw_i2l (dX9_back.at 4 rfl) (nrng hv.1) ?_
    replace hv := hv.2
    refine sw_lconst (z := 0) (dX9_back.at 5 rfl) (by decide) ?_
    refine sw_ldc2 (z := 2) (dX9_back.at 6 rfl) kc_X9_342 (by decide) ?_
    refine sw_callS (post' := post) (B' := B0) (As := [vl (((x : Nat) : Int)), vl (0), vl (2)]) (mc := 0) (ms := 0) (dX9_back.at 7 rfl) lk_X9_104 rfl rfl (Nat.le_of_ble_eq_true rfl) rfl (Nat.le_refl _) (Nat.le_refl _) ?_
    refine c_X9_in (u := ((x : Nat) : Int)) (lo := 0) (hi := 2) (j := j + 0) hv.1 hv.2.1 hv.2.2.1 ?_
    replace hv := hv.2.2.2
    refine sw_if_ne (tgt := 22) (dX9_back.at 8 rfl) (by decide) (bz_rng _) (fun q => ?_) (fun q => ?_)
    · replace hv := hv.1 (bz_1 q)
      refine sw_aload_n (dX9_back.at 11 rfl) rfl rfl ?_
      refine sw_getR (dX9_back.at 12 rfl) fp_X9_98 (S_lt 49 (by decide)) (S_49 nw nx g) rfl rfl ?_
      refine sw_iload_n (dX9_back.at 13 rfl) rfl rfl ?_
      refine sw_zaldN x (dX9_back.at 14 rfl) (S_lt 77 (by decide)) (S_77 nw nx g) (by decide) hv.1 rfl ?_
      replace hv := hv.2
      refine sw_if_ne (tgt := 34) (dX9_back.at 15 rfl) (by decide) hv.1 (fun q => ?_) (fun q => ?_)
      · replace hv := hv.2.1 q
        refine sw_aload_n (dX9_back.at 18 rfl) rfl rfl ?_
        refine sw_aload_n (dX9_back.at 19 rfl) rfl rfl ?_
        refine sw_getR (dX9_back.at 20 rfl) fp_X9_89 (S_lt 49 (by decide)) (S_49 nw nx g) rfl rfl ?_
        refine sw_iload_n (dX9_back.at 21 rfl) rfl rfl ?_
        refine sw_laldN x (dX9_back.at 22 rfl) (S_lt 74 (by decide)) (S_74 nw nx g) (by decide) hv.1 rfl ?_
        replace hv := hv.2
        refine sw_putL (dX9_back.at 23 rfl) fp_X9_202 (S_lt 49 (by decide)) (S_49 nw nx g) rfl ?_
        refine sw_aload_n (dX9_back.at 24 rfl) rfl rfl ?_
        refine sw_aload_n (dX9_back.at 25 rfl) rfl rfl ?_
        refine sw_getR (dX9_back.at 26 rfl) fp_X9_92 (S_lt 49 (by decide)) (S_49 nw nx g) rfl rfl ?_
        refine sw_iload_n (dX9_back.at 27 rfl) rfl rfl ?_
        refine sw_ialdN x (dX9_back.at 28 rfl) (S_lt 75 (by decide)) (S_75 nw nx g) (by decide) hv.1 rfl ?_
        replace hv := hv.2
        refine sw_putI (dX9_back.at 29 rfl) fp_X9_199 (S_lt 49 (by decide)) (S_49 nw nx g) rfl ?_
        refine sw_iconst (dX9_back.at 30 rfl) ?_
        refine sw_istore_n (lo' := [some (vr (49)), some (vi (((x : Nat) : Int))), some (vi (0))]) (dX9_back.at 31 rfl) rfl (by decide) rfl ?_
        exact hv
      · replace hv := hv.2.2 q
        refine sw_bipush (dX9_back.at 16 rfl) (by decide) ?_
        exact sw_iret (dX9_back.at 17 rfl) rfl (Nat.le_refl _) (Nat.le_refl _) hv
    · replace hv := hv.2 (bz_n1 q)
      refine sw_bipush (dX9_back.at 9 rfl) (by decide) ?_
      exact sw_iret (dX9_back.at 10 rfl) rfl (Nat.le_refl _) (Nat.le_refl _) hv

set_option maxHeartbeats 2000000 in
set_option maxRecDepth 20000 in
theorem g_X9_back_0 {G : GG} {j nw nx gn : Nat} {g : Nat → Sh} {c : Nat → Nat → Int} {post : Option AV → AM → Prop} {x : Int} {P : GD} {T9 : Nat} {A9 : Nat} (hM : ML c P) (hV : GV P) (hT9 : c 49 38 = ((T9 : Nat) : Int)) (hA9 : c 49 39 = ((A9 : Nat) : Int))  (hv : (((decide (0 < gN P)) = false) → post (some (vi ((-2)))) (S nw nx g, 78 + gn, c)) ∧ (((decide (0 < gN P)) = true) → (-2147483648 ≤ x ∧ x < 2147483648) ∧ ((-9223372036854775808 ≤ (x : Int) ∧ (x : Int) < 9223372036854775808) ∧ (-9223372036854775808 ≤ (0 : Int) ∧ (0 : Int) < 9223372036854775808) ∧ (-9223372036854775808 ≤ (2 : Int) ∧ (2 : Int) < 9223372036854775808) ∧ ((((decide (0 ≤ x ∧ x ≤ 2)) = true) → SW G (j + 1) mX9_back 27 [some (vr (49)), some (vi (x)), none] [vi (x), vr (77)] (S nw nx g, 78 + gn, c) B0 post) ∧ (((decide (0 ≤ x ∧ x ≤ 2)) = false) → post (some (vi ((-2)))) (S nw nx g, 78 + gn, c)))))) :
    SW G (j + 1) mX9_back 0 [some (vr (49)), some (vi (x)), none] [] (S nw nx g, 78 + gn, c) B0 post := by
  refine sw_aload_n (dX9_back.at 0 rfl) rfl rfl ?_
  refine sw_callV (B' := B0) (As := []) (mc := 0) (ms := 0) (dX9_back.at 1 rfl) lk_X9_248 (S_lt 49 (by decide)) (S_49 nw nx g) rfl rfl (Nat.le_of_ble_eq_true rfl) rfl (Nat.le_refl _) (Nat.le_refl _) ?_
  refine c_X9_is  (j := j + 0) hM hV ?_
  refine sw_if_eq (tgt := 19) (dX9_back.at 2 rfl) (by decide) (bz_rng _) (fun q => ?_) (fun q => ?_)
  · replace hv := hv.1 (bz_0 q)
    refine sw_bipush (dX9_back.at 9 rfl) (by decide) ?_
    exact sw_iret (dX9_back.at 10 rfl) rfl (Nat.le_refl _) (Nat.le_refl _) hv
  · replace hv := hv.2 (bz_n0 q)
    refine sw_iload_n (dX9_back.at 3 rfl) rfl rfl ?_
    refine sw_i2l (dX9_back.at 4 rfl) hv.1 ?_
    replace hv := hv.2
    refine sw_lconst (z := 0) (dX9_back.at 5 rfl) (by decide) ?_
    refine sw_ldc2 (z := 2) (dX9_back.at 6 rfl) kc_X9_342 (by decide) ?_
    refine sw_callS (post' := post) (B' := B0) (As := [vl (x), vl (0), vl (2)]) (mc := 0) (ms := 0) (dX9_back.at 7 rfl) lk_X9_104 rfl rfl (Nat.le_of_ble_eq_true rfl) rfl (Nat.le_refl _) (Nat.le_refl _) ?_
    refine c_X9_in (u := x) (lo := 0) (hi := 2) (j := j + 0) hv.1 hv.2.1 hv.2.2.1 ?_
    replace hv := hv.2.2.2
    refine sw_if_ne (tgt := 22) (dX9_back.at 8 rfl) (by decide) (bz_rng _) (fun q => ?_) (fun q => ?_)
    · replace hv := hv.1 (bz_1 q)
      refine sw_aload_n (dX9_back.at 11 rfl) rfl rfl ?_
      refine sw_getR (dX9_back.at 12 rfl) fp_X9_98 (S_lt 49 (by decide)) (S_49 nw nx g) rfl rfl ?_
      refine sw_iload_n (dX9_back.at 13 rfl) rfl rfl ?_
      exact hv
    · replace hv := hv.2 (bz_n1 q)
      refine sw_bipush (dX9_back.at 9 rfl) (by decide) ?_
      exact sw_iret (dX9_back.at 10 rfl) rfl (Nat.le_refl _) (Nat.le_refl _) hv

set_option maxHeartbeats 2000000 in
theorem lp_X9_image_51 {G : GG} {j nw nx gn : Nat} {g : Nat → Sh} {c : Nat → Nat → Int} {post : Option AV → AM → Prop} {x : Nat} (hx : x < 3) (K : post (some (vi 0)) (S nw nx g, 78 + gn, cp9 c x 30)) : ∀ k i : Nat, i + k = 30 → SW G (j + 1) mX9_image 51 [some (vr (49)), some (vi (((x : Nat) : Int))), some (vi (((i : Nat) : Int)))] [] (S nw nx g, 78 + gn, cp9 c x i) B0 post := by
  intro k
  induction k with
  | zero =>
    intro i hi
    have e : i = 30 := by omega
    subst e
    refine g_X9_image_51 ?_
    refine ⟨?_, ⟨fun q => ?_, fun q => ⟨?_, ⟨?_, ?_⟩⟩⟩⟩
    all_goals first | exact K | omega | (exfalso; omega)
  | succ k ih =>
    intro i hi
    have h := ih (i + 1) (by omega)
    rw [cp9, ← cp9_off c x i 73 i (by decide)] at h
    refine g_X9_image_51 ?_
    refine ⟨?_, ⟨fun q => ?_, fun q => ⟨?_, ⟨?_, ?_⟩⟩⟩⟩
    all_goals first | exact h | omega | (exfalso; omega)

set_option maxHeartbeats 2000000 in
theorem lp_X9_back_56 {G : GG} {j nw nx gn : Nat} {g : Nat → Sh} {c : Nat → Nat → Int} {post : Option AV → AM → Prop} {x : Nat} (hx : x < 3) (K : post (some (vi 0)) (S nw nx g, 78 + gn, cb9 c x 30)) : ∀ k i : Nat, i + k = 30 → SW G (j + 1) mX9_back 56 [some (vr (49)), some (vi (((x : Nat) : Int))), some (vi (((i : Nat) : Int)))] [] (S nw nx g, 78 + gn, cb9 c x i) B0 post := by
  intro k
  induction k with
  | zero =>
    intro i hi
    have e : i = 30 := by omega
    subst e
    refine g_X9_back_56 ?_
    refine ⟨?_, ⟨fun q => ?_, fun q => ⟨?_, ⟨?_, ?_⟩⟩⟩⟩
    all_goals first | exact K | omega | (exfalso; omega)
  | succ k ih =>
    intro i hi
    have h := ih (i + 1) (by omega)
    rw [cb9, ← cb9_off c x i 76 (30 * x + i) (by decide)] at h
    refine g_X9_back_56 ?_
    refine ⟨?_, ⟨fun q => ?_, fun q => ⟨?_, ⟨?_, ?_⟩⟩⟩⟩
    all_goals first | exact h | omega | (exfalso; omega)

set_option maxHeartbeats 4000000 in
theorem c_X9_image {G : GG} {j nw nx gn : Nat} {g : Nat → Sh} {c : Nat → Nat → Int} {post : Option AV → AM → Prop} {P : GD} {T9 A9 : Nat} {x : Int} (hM : ML c P) (hV : GV P) (hT9 : c 49 38 = ((T9 : Nat) : Int)) (hA9 : c 49 39 = ((A9 : Nat) : Int)) (p1 : -2147483648 ≤ x ∧ x < 2147483648) (K : post (some (vi (q_image P x))) (S nw nx g, 78 + gn, m9_image P T9 A9 x c)) : SM G (j + 2) mX9_image [vr 49, vi x] (S nw nx g, 78 + gn, c) 0 0 post := by
  refine sm_of wX9_image rfl (Nat.le_of_ble_eq_true rfl) ?_
  by_cases hv : ¬ gN P = 0 ∧ 0 ≤ x ∧ x < 3
  · obtain ⟨x, rfl⟩ : ∃ n : Nat, x = (n : Int) := ⟨x.toNat, by omega⟩
    rw [q_image, m9_image, if_pos hv, if_pos hv] at K
    simp only [Int.toNat_natCast] at K
    refine g_X9_image_n hM hV hT9 hA9 ?_
    refine ⟨fun q => ?_, fun q => ⟨?_, ⟨?_, ?_, ?_, ⟨fun q => ⟨?_, ⟨?_, ⟨?_, ?_⟩⟩⟩, fun q => ?_⟩⟩⟩⟩
    all_goals (try simp only [decide_eq_true_eq, decide_eq_false_iff_not] at *)
    all_goals first | omega | assumption | (exfalso; omega) | exact lp_X9_image_51 (by omega) K 30 0 (by omega)
  · rw [q_image, m9_image, if_neg hv, if_neg hv] at K
    refine g_X9_image_0 hM hV hT9 hA9 ?_
    refine ⟨fun q => ?_, fun q => ⟨?_, ⟨?_, ?_, ?_, ⟨fun q => ⟨?_, ?_, ⟨?_, ?_, ⟨?_, ?_, ?_⟩⟩⟩, fun q => ?_⟩⟩⟩⟩
    all_goals (try simp only [decide_eq_true_eq, decide_eq_false_iff_not] at *)
    all_goals first | omega | exact K | assumption | (exfalso; omega)
set_option maxHeartbeats 4000000 in
theorem c_X9_back {G : GG} {j nw nx gn : Nat} {g : Nat → Sh} {c : Nat → Nat → Int} {post : Option AV → AM → Prop} {P : GD} {T9 A9 : Nat} {x h : Int} (hM : ML c P) (hV : GV P) (hT9 : c 49 38 = ((T9 : Nat) : Int)) (hA9 : c 49 39 = ((A9 : Nat) : Int)) (hI : 0 ≤ x → x < 3 → c 77 x.toNat = h ∧ (h = 0 ∨ h = 1)) (p1 : -2147483648 ≤ x ∧ x < 2147483648) (K : post (some (vi (q_back P x (if h = 1 then 0 else -1)))) (S nw nx g, 78 + gn, m9_back P x h c)) : SM G (j + 2) mX9_back [vr 49, vi x] (S nw nx g, 78 + gn, c) 0 0 post := by
  refine sm_of wX9_back rfl (Nat.le_of_ble_eq_true rfl) ?_
  by_cases hv : ¬ gN P = 0 ∧ 0 ≤ x ∧ x < 3
  · obtain ⟨x, rfl⟩ : ∃ n : Nat, x = (n : Int) := ⟨x.toNat, by omega⟩
    obtain ⟨i1, i2⟩ := hI hv.2.1 hv.2.2
    simp only [Int.toNat_natCast] at i1
    rcases i2 with i2 | i2
    · rw [q_back, m9_back, if_pos hv, if_neg (show ¬ h = 1 by omega), if_pos rfl, if_neg (fun q => by omega)] at K
      refine g_X9_back_n hM hV hT9 hA9 ?_
      refine ⟨fun q => ?_, fun q => ⟨?_, ⟨?_, ?_, ?_, ⟨fun q => ⟨?_, ⟨?_, ⟨fun q => ⟨?_, ⟨?_, ?_⟩⟩, fun q => ?_⟩⟩⟩, fun q => ?_⟩⟩⟩⟩
      all_goals (try simp only [decide_eq_true_eq, decide_eq_false_iff_not] at *)
      all_goals first | omega | exact K | assumption | (exfalso; omega)
    · rw [q_back, m9_back, if_pos hv, if_pos i2, if_neg (by decide), if_pos ⟨hv, i2⟩] at K
      simp only [Int.toNat_natCast] at K
      rw [show c 75 x = up2 c 49 38 (c 74 x) 75 x from (up2_ne (Or.inl (by decide))).symm] at K
      refine g_X9_back_n hM hV hT9 hA9 ?_
      refine ⟨fun q => ?_, fun q => ⟨?_, ⟨?_, ?_, ?_, ⟨fun q => ⟨?_, ⟨?_, ⟨fun q => ⟨?_, ⟨?_, ?_⟩⟩, fun q => ?_⟩⟩⟩, fun q => ?_⟩⟩⟩⟩
      all_goals (try simp only [decide_eq_true_eq, decide_eq_false_iff_not] at *)
      all_goals first | omega | assumption | (exfalso; omega) | exact lp_X9_back_56 (by omega) K 30 0 (by omega)
  · rw [q_back, m9_back, if_neg hv, if_neg (fun q => hv q.1)] at K
    refine g_X9_back_0 hM hV hT9 hA9 ?_
    refine ⟨fun q => ?_, fun q => ⟨?_, ⟨?_, ?_, ?_, ⟨fun q => ?_, fun q => ?_⟩⟩⟩⟩
    all_goals (try simp only [decide_eq_true_eq, decide_eq_false_iff_not] at *)
    all_goals first | omega | exact K | assumption | (exfalso; omega)

