/-- the reference's memory while it reads -/
def rm (c : Nat → Nat → Int) (ra rb rt rv : Nat) (rz : Bool) (fk : Nat) (fp : Int) (rk ln : Nat) (bo : Nat → Nat) : Nat → Nat → Int := fun a i =>
  if a = 49 then (if i = 8 then (ra : Int) else if i = 9 then (rb : Int) else if i = 10 then (rt : Int) else if i = 11 then (rv : Int) else if i = 12 then bz rz else if i = 2 then (fk : Int) else if i = 3 then fp else if i = 4 then (rk : Int) else if i = 5 then (ln : Int) else c 49 i)
  else if a = 51 then (if i < 25 then ((bo i : Nat) : Int) else c 51 i) else c a i
theorem rm_r51 (c : Nat → Nat → Int) (ra rb rt rv : Nat) (rz : Bool) (fk : Nat) (fp : Int) (rk ln : Nat) (bo : Nat → Nat) {x : Nat} (h : x < 25) : rm c ra rb rt rv rz fk fp rk ln bo 51 x = ((bo x : Nat) : Int) := by
  show (if x < 25 then ((bo x : Nat) : Int) else c 51 x) = _
  rw [if_pos h]
section RMs
variable {c : Nat → Nat → Int} {ra rb rt rv : Nat} {rz : Bool} {fk : Nat} {fp : Int} {rk ln : Nat} {bo : Nat → Nat}
theorem rm_8 {z : Nat} : up2 (rm c ra rb rt rv rz fk fp rk ln bo) 49 8 ((z : Nat) : Int) = rm c z rb rt rv rz fk fp rk ln bo := by
  funext a i
  by_cases h1 : a = 49
  · subst h1
    by_cases h2 : i = 8
    · subst h2; rfl
    · simp [up2, rm, h2]
  · simp [up2, h1, rm]
theorem rm_9 {z : Nat} : up2 (rm c ra rb rt rv rz fk fp rk ln bo) 49 9 ((z : Nat) : Int) = rm c ra z rt rv rz fk fp rk ln bo := by
  funext a i
  by_cases h1 : a = 49
  · subst h1
    by_cases h2 : i = 9
    · subst h2; rfl
    · simp [up2, rm, h2]
  · simp [up2, h1, rm]
theorem rm_10 {z : Nat} : up2 (rm c ra rb rt rv rz fk fp rk ln bo) 49 10 ((z : Nat) : Int) = rm c ra rb z rv rz fk fp rk ln bo := by
  funext a i
  by_cases h1 : a = 49
  · subst h1
    by_cases h2 : i = 10
    · subst h2; rfl
    · simp [up2, rm, h2]
  · simp [up2, h1, rm]
theorem rm_11 {z : Nat} : up2 (rm c ra rb rt rv rz fk fp rk ln bo) 49 11 ((z : Nat) : Int) = rm c ra rb rt z rz fk fp rk ln bo := by
  funext a i
  by_cases h1 : a = 49
  · subst h1
    by_cases h2 : i = 11
    · subst h2; rfl
    · simp [up2, rm, h2]
  · simp [up2, h1, rm]
theorem rm_12t : up2 (rm c ra rb rt rv rz fk fp rk ln bo) 49 12 1 = rm c ra rb rt rv true fk fp rk ln bo := by
  funext a i
  by_cases h1 : a = 49
  · subst h1
    by_cases h2 : i = 12
    · subst h2; rfl
    · simp [up2, rm, h2]
  · simp [up2, h1, rm]
theorem rm_12f : up2 (rm c ra rb rt rv rz fk fp rk ln bo) 49 12 0 = rm c ra rb rt rv false fk fp rk ln bo := by
  funext a i
  by_cases h1 : a = 49
  · subst h1
    by_cases h2 : i = 12
    · subst h2; rfl
    · simp [up2, rm, h2]
  · simp [up2, h1, rm]
theorem rm_2 {z : Nat} : up2 (rm c ra rb rt rv rz fk fp rk ln bo) 49 2 ((z : Nat) : Int) = rm c ra rb rt rv rz z fp rk ln bo := by
  funext a i
  by_cases h1 : a = 49
  · subst h1
    by_cases h2 : i = 2
    · subst h2; rfl
    · simp [up2, rm, h2]
  · simp [up2, h1, rm]
theorem rm_3 {z : Int} : up2 (rm c ra rb rt rv rz fk fp rk ln bo) 49 3 z = rm c ra rb rt rv rz fk z rk ln bo := by
  funext a i
  by_cases h1 : a = 49
  · subst h1
    by_cases h2 : i = 3
    · subst h2; rfl
    · simp [up2, rm, h2]
  · simp [up2, h1, rm]
theorem rm_4 {z : Nat} : up2 (rm c ra rb rt rv rz fk fp rk ln bo) 49 4 ((z : Nat) : Int) = rm c ra rb rt rv rz fk fp z ln bo := by
  funext a i
  by_cases h1 : a = 49
  · subst h1
    by_cases h2 : i = 4
    · subst h2; rfl
    · simp [up2, rm, h2]
  · simp [up2, h1, rm]
theorem rm_5 {z : Nat} : up2 (rm c ra rb rt rv rz fk fp rk ln bo) 49 5 ((z : Nat) : Int) = rm c ra rb rt rv rz fk fp rk z bo := by
  funext a i
  by_cases h1 : a = 49
  · subst h1
    by_cases h2 : i = 5
    · subst h2; rfl
    · simp [up2, rm, h2]
  · simp [up2, h1, rm]
theorem rm_a51 {k v : Nat} (h : k < 25) : up2 (rm c ra rb rt rv rz fk fp rk ln bo) 51 k ((v : Nat) : Int) = rm c ra rb rt rv rz fk fp rk ln (uN bo k v) := by
  funext a i
  by_cases h1 : a = 51
  · subst h1
    by_cases h2 : i = k
    · subst h2; simp [up2, rm, uN, h]
    · simp [up2, rm, h2, uN]
  · simp [up2, h1, rm]
theorem rm_bo {b2 : Nat → Nat} (h : ∀ i, i < 25 → bo i = b2 i) : rm c ra rb rt rv rz fk fp rk ln bo = rm c ra rb rt rv rz fk fp rk ln b2 := by
  funext a i
  by_cases h1 : a = 51
  · subst h1
    by_cases h2 : i < 25
    · simp [rm, h2, h i h2]
    · simp [rm, h2]
  · simp [h1, rm]
end RMs
def vlS (nb : Nat → Nat) (n p : Nat) : Nat := if tkK nb n p = 2 then vlR nb (tkT nb n p - tkF nb n p) (tkF nb n p) 0 else 0
theorem vlS_le {nb : Nat → Nat} {n p : Nat} : vlS nb n p ≤ 99999 := by
  unfold vlS
  split
  · exact vlR_le nb _ _ _ (by decide)
  · decide
theorem vlS_T {nb : Nat → Nat} {n p : Nat} (hp : p ≤ n) (h : tkK nb n p = 2) : vlT nb n p = vlS nb n p ∨ (1000 ≤ vlT nb n p ∧ 1000 ≤ vlS nb n p) := by
  unfold vlS vlT
  rw [if_pos h]
  exact vl_CR nb _ _ _ _ (Or.inl rfl) (fun q h1 h2 => tk_dig h q h1 (by have := tkT_le (nb := nb) hp; omega))
def rbd (bd : Nat → Nat) : Nat → Nat := fun i => if i % 6 = 0 then 1 else if bd i = 0 then 2 else bd i
theorem rbd_at {bd : Nat → Nat} {a b : Nat} (ha : a < 5) (hb : b < 5) (h : b ≠ a) : rbd bd (5 * a + b) = if bd (a * 5 + b) = 0 then 2 else bd (a * 5 + b) := by
  have e : 5 * a + b = a * 5 + b := by omega
  unfold rbd
  rw [e, if_neg (by omega)]
theorem rbd_set {bd : Nat → Nat} {a b v : Nat} (ha : a < 5) (hb : b < 5) (h : b ≠ a) (hv : 3 ≤ v) : uN (uN (rbd bd) (5 * a + b) v) (5 * b + a) v = rbd (uN (uN bd (a * 5 + b) v) (b * 5 + a) v) := by
  have e1 : 5 * a + b = a * 5 + b := by omega
  have e2 : 5 * b + a = b * 5 + a := by omega
  rw [e1, e2]
  funext i
  simp only [uN, rbd]
  (repeat' split) <;> first | rfl | omega

set_option maxHeartbeats 2000000 in
set_option maxRecDepth 20000 in
theorem g_X9_isAt_0 {G : GG} {j nw nx gn : Nat} {g : Nat → Sh} {c : Nat → Nat → Int} {post : Option AV → AM → Prop} {lo : Nat} {hi : Nat} {nb : Nat → Nat} {n : Nat} {ra : Nat} {rb : Nat} {rt : Nat} {rv : Nat} {rz : Bool} {fk : Nat} {fp : Int} {rk : Nat} {ln : Nat} {bo : Nat → Nat} (hS : c 49 1 = ((n : Nat) : Int)) (hn : n ≤ 300) (hB : ∀ i, nb i < 256) (hT : ∀ i, i < 300 → c 50 i = ((nb i : Nat) : Int))  (hv : (ra < 2147483648) ∧ (n < 2147483648) ∧ (((n ≤ ra) → post (some (vi (0))) (S nw nx g, 78 + gn, (rm c ra rb rt rv rz fk fp rk ln bo))) ∧ ((¬ (n ≤ ra)) → (ra < 300) ∧ ((nb ra < 2147483648) ∧ ((lo < 2147483648) ∧ ((hi < 2147483648) ∧ ((-9223372036854775808 ≤ (((nb ra : Nat) : Int) : Int) ∧ (((nb ra : Nat) : Int) : Int) < 9223372036854775808) ∧ (-9223372036854775808 ≤ (((lo : Nat) : Int) : Int) ∧ (((lo : Nat) : Int) : Int) < 9223372036854775808) ∧ (-9223372036854775808 ≤ (((hi : Nat) : Int) : Int) ∧ (((hi : Nat) : Int) : Int) < 9223372036854775808) ∧ ((((decide (((lo : Nat) : Int) ≤ ((nb ra : Nat) : Int) ∧ ((nb ra : Nat) : Int) ≤ ((hi : Nat) : Int))) = false) → post (some (vi (0))) (S nw nx g, 78 + gn, (rm c ra rb rt rv rz fk fp rk ln bo))) ∧ (((decide (((lo : Nat) : Int) ≤ ((nb ra : Nat) : Int) ∧ ((nb ra : Nat) : Int) ≤ ((hi : Nat) : Int))) = true) → post (some (vi (1))) (S nw nx g, 78 + gn, (rm c ra rb rt rv rz fk fp rk ln bo))))))))))) :
    SW G (j + 1) mX9_isAt 0 [some (vr (49)), some (vi (((lo : Nat) : Int))), some (vi (((hi : Nat) : Int)))] [] (S nw nx g, 78 + gn, (rm c ra rb rt rv rz fk fp rk ln bo)) B0 post := by
  refine sw_aload_n (dX9_isAt.at 0 rfl) rfl rfl ?_
  refine sw_getIE (w := ((ra : Nat) : Int)) (dX9_isAt.at 1 rfl) fp_X9_108 (S_lt 49 (by decide)) (S_49 nw nx g) rfl rfl ?_
  refine sw_aload_n (dX9_isAt.at 2 rfl) rfl rfl ?_
  refine sw_getIE (w := ((n : Nat) : Int)) (dX9_isAt.at 3 rfl) fp_X9_101 (S_lt 49 (by decide)) (S_49 nw nx g) rfl hS ?_
  refine sw_icmpN_ge ra n (tgt := 35) (dX9_isAt.at 4 rfl) (by decide) hv.1 hv.2.1 (fun q => ?_) (fun q => ?_)
  · replace hv := hv.2.2.1 q
    refine sw_iconst (dX9_isAt.at 19 rfl) ?_
    exact sw_zret (dX9_isAt.at 20 rfl) rfl (by decide) (Nat.le_refl _) (Nat.le_refl _) hv
  · replace hv := hv.2.2.2 q
    refine sw_aload_n (dX9_isAt.at 5 rfl) rfl rfl ?_
    refine sw_getR (dX9_isAt.at 6 rfl) fp_X9_7 (S_lt 49 (by decide)) (S_49 nw nx g) rfl rfl ?_
    refine sw_aload_n (dX9_isAt.at 7 rfl) rfl rfl ?_
    refine sw_getIE (w := ((ra : Nat) : Int)) (dX9_isAt.at 8 rfl) fp_X9_108 (S_lt 49 (by decide)) (S_49 nw nx g) rfl rfl ?_
    refine sw_ialdN ra (w := ((nb ra : Nat) : Int)) (dX9_isAt.at 9 rfl) (S_lt 50 (by decide)) (S_50 nw nx g) (by decide) hv.1 (hT _ hv.1) ?_
    replace hv := hv.2
    refine sw_i2l (dX9_isAt.at 10 rfl) (nrng hv.1) ?_
    replace hv := hv.2
    refine sw_iload_n (dX9_isAt.at 11 rfl) rfl rfl ?_
    refine sw_i2l (dX9_isAt.at 12 rfl) (nrng hv.1) ?_
    replace hv := hv.2
    refine sw_iload_n (dX9_isAt.at 13 rfl) rfl rfl ?_
    refine sw_i2l (dX9_isAt.at 14 rfl) (nrng hv.1) ?_
    replace hv := hv.2
    refine sw_callS (post' := post) (B' := B0) (As := [vl (((nb ra : Nat) : Int)), vl (((lo : Nat) : Int)), vl (((hi : Nat) : Int))]) (mc := 0) (ms := 0) (dX9_isAt.at 15 rfl) lk_X9_104 rfl rfl (Nat.le_of_ble_eq_true rfl) rfl (Nat.le_refl _) (Nat.le_refl _) ?_
    refine c_X9_in (u := ((nb ra : Nat) : Int)) (lo := ((lo : Nat) : Int)) (hi := ((hi : Nat) : Int)) (j := j + 0) hv.1 hv.2.1 hv.2.2.1 ?_
    replace hv := hv.2.2.2
    refine sw_if_eq (tgt := 35) (dX9_isAt.at 16 rfl) (by decide) (bz_rng _) (fun q => ?_) (fun q => ?_)
    · replace hv := hv.1 (bz_0 q)
      refine sw_iconst (dX9_isAt.at 19 rfl) ?_
      exact sw_zret (dX9_isAt.at 20 rfl) rfl (by decide) (Nat.le_refl _) (Nat.le_refl _) hv
    · replace hv := hv.2 (bz_n0 q)
      refine sw_iconst (dX9_isAt.at 17 rfl) ?_
      refine sw_goto (tgt := 36) (dX9_isAt.at 18 rfl) (by decide) ?_
      exact sw_zret (dX9_isAt.at 20 rfl) rfl (by decide) (Nat.le_refl _) (Nat.le_refl _) hv

theorem c_X9_isAt {G : GG} {j nw nx gn : Nat} {g : Nat → Sh} {c : Nat → Nat → Int} {post : Option AV → AM → Prop} {nb : Nat → Nat} {n : Nat} {ra : Nat} {rb : Nat} {rt : Nat} {rv : Nat} {rz : Bool} {fk : Nat} {fp : Int} {rk : Nat} {ln : Nat} {bo : Nat → Nat} {lo hi : Nat} (hS : c 49 1 = ((n : Nat) : Int)) (hn : n ≤ 300) (hB : ∀ i, nb i < 256) (hT : ∀ i, i < 300 → c 50 i = ((nb i : Nat) : Int)) (p1 : ra ≤ n) (p2 : lo < 256) (p3 : hi < 256) (K : post (some (vi (bz (decide (ra < n ∧ lo ≤ nb ra ∧ nb ra ≤ hi))))) (S nw nx g, 78 + gn, (rm c ra rb rt rv rz fk fp rk ln bo))) : SM G (j + 2) mX9_isAt [vr (49), vi (((lo : Nat) : Int)), vi (((hi : Nat) : Int))] (S nw nx g, 78 + gn, (rm c ra rb rt rv rz fk fp rk ln bo)) 0 0 post := by
  refine sm_of wX9_isAt rfl (Nat.le_of_ble_eq_true rfl) ?_
  have hb := hB ra
  have K1 : ∀ v : Int, v = bz (decide (ra < n ∧ lo ≤ nb ra ∧ nb ra ≤ hi)) → post (some (vi v)) (S nw nx g, 78 + gn, (rm c ra rb rt rv rz fk fp rk ln bo)) := fun v h => h ▸ K
  refine g_X9_isAt_0 hS hn hB hT ?_
  refine ⟨?_, ?_, ⟨fun q => ?_, fun q => ⟨?_, ⟨?_, ⟨?_, ⟨?_, ⟨?_, ?_, ?_, ⟨fun q => ?_, fun q => ?_⟩⟩⟩⟩⟩⟩⟩⟩
  all_goals first | omega | (refine K1 _ ?_; unfold bz; split <;> rename_i hh <;> simp only [decide_eq_true_eq, decide_eq_false_iff_not] at * <;> first | rfl | (exfalso; omega))

set_option maxHeartbeats 2000000 in
set_option maxRecDepth 20000 in
theorem g_X9_next_0 {G : GG} {j nw nx gn : Nat} {g : Nat → Sh} {c : Nat → Nat → Int} {post : Option AV → AM → Prop} {nb : Nat → Nat} {n : Nat} {ra : Nat} {rb : Nat} {rt : Nat} {rv : Nat} {rz : Bool} {fk : Nat} {fp : Int} {rk : Nat} {ln : Nat} {bo : Nat → Nat} (hS : c 49 1 = ((n : Nat) : Int)) (hn : n ≤ 300) (hB : ∀ i, nb i < 256) (hT : ∀ i, i < 300 → c 50 i = ((nb i : Nat) : Int))  (hv : (ra ≤ n) ∧ (32 < 256) ∧ (32 < 256) ∧ ((((decide (ra < n ∧ 32 ≤ nb ra ∧ nb ra ≤ 32)) = true) → SW G (j + 2) mX9_next 0 [some (vr (49))] [] (S nw nx g, 78 + gn, (rm c (ra + 1) rb rt rv rz fk fp rk ln bo)) B0 post) ∧ (((decide (ra < n ∧ 32 ≤ nb ra ∧ nb ra ≤ 32)) = false) → (ra ≤ n) ∧ (10 < 256) ∧ (10 < 256) ∧ ((((decide (ra < n ∧ 10 ≤ nb ra ∧ nb ra ≤ 10)) = false) → SW G (j + 2) mX9_next 35 [some (vr (49))] [] (S nw nx g, 78 + gn, (rm c ra rb rt rv rz fk fp rk ln bo)) B0 post) ∧ (((decide (ra < n ∧ 10 ≤ nb ra ∧ nb ra ≤ 10)) = true) → SW G (j + 2) mX9_next 0 [some (vr (49))] [] (S nw nx g, 78 + gn, (rm c (ra + 1) rb rt rv rz fk fp rk ln bo)) B0 post))))) :
    SW G (j + 2) mX9_next 0 [some (vr (49))] [] (S nw nx g, 78 + gn, (rm c ra rb rt rv rz fk fp rk ln bo)) B0 post := by
  refine sw_aload_n (dX9_next_0.at 0 rfl) rfl rfl ?_
  refine sw_bipush (dX9_next_0.at 1 rfl) (by decide) ?_
  refine sw_bipush (dX9_next_0.at 2 rfl) (by decide) ?_
  refine sw_callV (B' := B0) (As := [vi (32), vi (32)]) (mc := 0) (ms := 0) (dX9_next_0.at 3 rfl) lk_X9_111 (S_lt 49 (by decide)) (S_49 nw nx g) rfl rfl (Nat.le_of_ble_eq_true rfl) rfl (Nat.le_refl _) (Nat.le_refl _) ?_
  refine c_X9_isAt (lo := 32) (hi := 32) (j := j + 0) hS hn hB hT hv.1 hv.2.1 hv.2.2.1 ?_
  replace hv := hv.2.2.2
  refine sw_if_ne (tgt := 22) (dX9_next_0.at 4 rfl) (by decide) (bz_rng _) (fun q => ?_) (fun q => ?_)
  · replace hv := hv.1 (bz_1 q)
    refine sw_aload_n (dX9_next_0.at 10 rfl) rfl rfl ?_
    refine sw_dup (dX9_next_0.at 11 rfl) (fun _ h => by cases h) ?_
    refine sw_getIE (w := ((ra : Nat) : Int)) (dX9_next_0.at 12 rfl) fp_X9_108 (S_lt 49 (by decide)) (S_49 nw nx g) rfl rfl ?_
    refine sw_iconst (dX9_next_0.at 13 rfl) ?_
    refine sw_iadd (dX9_next_0.at 14 rfl) ?_
    refine sw_topI (y := ((ra + 1 : Nat) : Int)) (by first | rfl | (congr 1)) ?_
    refine sw_putI (dX9_next_0.at 15 rfl) fp_X9_108 (S_lt 49 (by decide)) (S_49 nw nx g) rfl ?_
    refine SW.cg (M' := (S nw nx g, 78 + gn, (rm c (ra + 1) rb rt rv rz fk fp rk ln bo))) (congrArg (fun m => (S nw nx g, 78 + gn, m)) rm_8) ?_
    refine sw_goto (tgt := 0) (dX9_next_0.at 16 rfl) (by decide) ?_
    exact hv
  · replace hv := hv.2 (bz_n1 q)
    refine sw_aload_n (dX9_next_0.at 5 rfl) rfl rfl ?_
    refine sw_bipush (dX9_next_0.at 6 rfl) (by decide) ?_
    refine sw_bipush (dX9_next_0.at 7 rfl) (by decide) ?_
    refine sw_callV (B' := B0) (As := [vi (10), vi (10)]) (mc := 0) (ms := 0) (dX9_next_0.at 8 rfl) lk_X9_111 (S_lt 49 (by decide)) (S_49 nw nx g) rfl rfl (Nat.le_of_ble_eq_true rfl) rfl (Nat.le_refl _) (Nat.le_refl _) ?_
    refine c_X9_isAt (lo := 10) (hi := 10) (j := j + 0) hS hn hB hT hv.1 hv.2.1 hv.2.2.1 ?_
    replace hv := hv.2.2.2
    refine sw_if_eq (tgt := 35) (dX9_next_0.at 9 rfl) (by decide) (bz_rng _) (fun q => ?_) (fun q => ?_)
    · replace hv := hv.1 (bz_0 q)
      exact hv
    · replace hv := hv.2 (bz_n0 q)
      refine sw_aload_n (dX9_next_0.at 10 rfl) rfl rfl ?_
      refine sw_dup (dX9_next_0.at 11 rfl) (fun _ h => by cases h) ?_
      refine sw_getIE (w := ((ra : Nat) : Int)) (dX9_next_0.at 12 rfl) fp_X9_108 (S_lt 49 (by decide)) (S_49 nw nx g) rfl rfl ?_
      refine sw_iconst (dX9_next_0.at 13 rfl) ?_
      refine sw_iadd (dX9_next_0.at 14 rfl) ?_
      refine sw_topI (y := ((ra + 1 : Nat) : Int)) (by first | rfl | (congr 1)) ?_
      refine sw_putI (dX9_next_0.at 15 rfl) fp_X9_108 (S_lt 49 (by decide)) (S_49 nw nx g) rfl ?_
      refine SW.cg (M' := (S nw nx g, 78 + gn, (rm c (ra + 1) rb rt rv rz fk fp rk ln bo))) (congrArg (fun m => (S nw nx g, 78 + gn, m)) rm_8) ?_
      refine sw_goto (tgt := 0) (dX9_next_0.at 16 rfl) (by decide) ?_
      exact hv

set_option maxHeartbeats 2000000 in
set_option maxRecDepth 20000 in
theorem g_X9_next_35 {G : GG} {j nw nx gn : Nat} {g : Nat → Sh} {c : Nat → Nat → Int} {post : Option AV → AM → Prop} {nb : Nat → Nat} {n : Nat} {ra : Nat} {rb : Nat} {rt : Nat} {rv : Nat} {rz : Bool} {fk : Nat} {fp : Int} {rk : Nat} {ln : Nat} {bo : Nat → Nat} (hS : c 49 1 = ((n : Nat) : Int)) (hn : n ≤ 300) (hB : ∀ i, nb i < 256) (hT : ∀ i, i < 300 → c 50 i = ((nb i : Nat) : Int))  (hv : (ra < 2147483648) ∧ (n < 2147483648) ∧ (((ra ≠ n) → (ra ≤ n) ∧ (97 < 256) ∧ (122 < 256) ∧ ((((decide (ra < n ∧ 97 ≤ nb ra ∧ nb ra ≤ 122)) = false) → (ra ≤ n) ∧ (48 < 256) ∧ (57 < 256) ∧ ((((decide (ra < n ∧ 48 ≤ nb ra ∧ nb ra ≤ 57)) = false) → (ra ≤ n) ∧ (59 < 256) ∧ (59 < 256) ∧ ((((decide (ra < n ∧ 59 ≤ nb ra ∧ nb ra ≤ 59)) = false) → post none (S nw nx g, 78 + gn, (rm c (ra + 1) ra 4 0 rz fk fp rk ln bo))) ∧ (((decide (ra < n ∧ 59 ≤ nb ra ∧ nb ra ≤ 59)) = true) → post none (S nw nx g, 78 + gn, (rm c (ra + 1) ra 3 0 rz fk fp rk ln bo))))) ∧ (((decide (ra < n ∧ 48 ≤ nb ra ∧ nb ra ≤ 57)) = true) → SW G (j + 2) mX9_next 123 [some (vr (49))] [] (S nw nx g, 78 + gn, (rm c ra ra 2 0 rz fk fp rk ln bo)) B0 post))) ∧ (((decide (ra < n ∧ 97 ≤ nb ra ∧ nb ra ≤ 122)) = true) → SW G (j + 2) mX9_next 83 [some (vr (49))] [] (S nw nx g, 78 + gn, (rm c ra ra 1 0 rz fk fp rk ln bo)) B0 post))) ∧ ((ra = n) → post none (S nw nx g, 78 + gn, (rm c ra ra 0 0 rz fk fp rk ln bo))))) :
    SW G (j + 2) mX9_next 35 [some (vr (49))] [] (S nw nx g, 78 + gn, (rm c ra rb rt rv rz fk fp rk ln bo)) B0 post := by
  refine sw_aload_n (dX9_next_0.at 17 rfl) rfl rfl ?_
  refine sw_aload_n (dX9_next_0.at 18 rfl) rfl rfl ?_
  refine sw_getIE (w := ((ra : Nat) : Int)) (dX9_next_0.at 19 rfl) fp_X9_108 (S_lt 49 (by decide)) (S_49 nw nx g) rfl rfl ?_
  refine sw_putI (dX9_next_0.at 20 rfl) fp_X9_115 (S_lt 49 (by decide)) (S_49 nw nx g) rfl ?_
  refine SW.cg (M' := (S nw nx g, 78 + gn, (rm c ra ra rt rv rz fk fp rk ln bo))) (congrArg (fun m => (S nw nx g, 78 + gn, m)) rm_9) ?_
  refine sw_aload_n (dX9_next_0.at 21 rfl) rfl rfl ?_
  refine sw_iconst (dX9_next_0.at 22 rfl) ?_
  refine sw_putI (dX9_next_0.at 23 rfl) fp_X9_118 (S_lt 49 (by decide)) (S_49 nw nx g) rfl ?_
  refine SW.cg (M' := (S nw nx g, 78 + gn, (rm c ra ra rt 0 rz fk fp rk ln bo))) (congrArg (fun m => (S nw nx g, 78 + gn, m)) rm_11) ?_
  refine sw_aload_n (dX9_next_0.at 24 rfl) rfl rfl ?_
  refine sw_getIE (w := ((ra : Nat) : Int)) (dX9_next_0.at 25 rfl) fp_X9_108 (S_lt 49 (by decide)) (S_49 nw nx g) rfl rfl ?_
  refine sw_aload_n (dX9_next_0.at 26 rfl) rfl rfl ?_
  refine sw_getIE (w := ((n : Nat) : Int)) (dX9_next_0.at 27 rfl) fp_X9_101 (S_lt 49 (by decide)) (S_49 nw nx g) rfl hS ?_
  refine sw_icmpN_ne ra n (tgt := 67) (dX9_next_0.at 28 rfl) (by decide) hv.1 hv.2.1 (fun q => ?_) (fun q => ?_)
  · replace hv := hv.2.2.1 q
    refine sw_aload_n (dX9_next_0.at 33 rfl) rfl rfl ?_
    refine sw_bipush (dX9_next_0.at 34 rfl) (by decide) ?_
    refine sw_bipush (dX9_next_0.at 35 rfl) (by decide) ?_
    refine sw_callV (B' := B0) (As := [vi (97), vi (122)]) (mc := 0) (ms := 0) (dX9_next_0.at 36 rfl) lk_X9_111 (S_lt 49 (by decide)) (S_49 nw nx g) rfl rfl (Nat.le_of_ble_eq_true rfl) rfl (Nat.le_refl _) (Nat.le_refl _) ?_
    refine c_X9_isAt (lo := 97) (hi := 122) (j := j + 0) hS hn hB hT hv.1 hv.2.1 hv.2.2.1 ?_
    replace hv := hv.2.2.2
    refine sw_if_eq (tgt := 107) (dX9_next_0.at 37 rfl) (by decide) (bz_rng _) (fun q => ?_) (fun q => ?_)
    · replace hv := hv.1 (bz_0 q)
      refine sw_aload_n (dX9_next_1.at 3 rfl) rfl rfl ?_
      refine sw_bipush (dX9_next_1.at 4 rfl) (by decide) ?_
      refine sw_bipush (dX9_next_1.at 5 rfl) (by decide) ?_
      refine sw_callV (B' := B0) (As := [vi (48), vi (57)]) (mc := 0) (ms := 0) (dX9_next_1.at 6 rfl) lk_X9_111 (S_lt 49 (by decide)) (S_49 nw nx g) rfl rfl (Nat.le_of_ble_eq_true rfl) rfl (Nat.le_refl _) (Nat.le_refl _) ?_
      refine c_X9_isAt (lo := 48) (hi := 57) (j := j + 0) hS hn hB hT hv.1 hv.2.1 hv.2.2.1 ?_
      replace hv := hv.2.2.2
      refine sw_if_eq (tgt := 176) (dX9_next_1.at 7 rfl) (by decide) (bz_rng _) (fun q => ?_) (fun q => ?_)
      · replace hv := hv.1 (bz_0 q)
        refine sw_aload_n (dX9_next_1.at 39 rfl) rfl rfl ?_
        refine sw_aload_n (dX9_next_1.at 40 rfl) rfl rfl ?_
        refine sw_bipush (dX9_next_1.at 41 rfl) (by decide) ?_
        refine sw_bipush (dX9_next_1.at 42 rfl) (by decide) ?_
        refine sw_callV (B' := B0) (As := [vi (59), vi (59)]) (mc := 0) (ms := 0) (dX9_next_1.at 43 rfl) lk_X9_111 (S_lt 49 (by decide)) (S_49 nw nx g) rfl rfl (Nat.le_of_ble_eq_true rfl) rfl (Nat.le_refl _) (Nat.le_refl _) ?_
        refine c_X9_isAt (lo := 59) (hi := 59) (j := j + 0) hS hn hB hT hv.1 hv.2.1 hv.2.2.1 ?_
        replace hv := hv.2.2.2
        refine sw_if_eq (tgt := 192) (dX9_next_1.at 44 rfl) (by decide) (bz_rng _) (fun q => ?_) (fun q => ?_)
        · replace hv := hv.1 (bz_0 q)
          refine sw_iconst (dX9_next_1.at 47 rfl) ?_
          refine sw_putI (dX9_next_1.at 48 rfl) fp_X9_121 (S_lt 49 (by decide)) (S_49 nw nx g) rfl ?_
          refine SW.cg (M' := (S nw nx g, 78 + gn, (rm c ra ra 4 0 rz fk fp rk ln bo))) (congrArg (fun m => (S nw nx g, 78 + gn, m)) rm_10) ?_
          refine sw_aload_n (dX9_next_1.at 49 rfl) rfl rfl ?_
          refine sw_dup (dX9_next_2.at 0 rfl) (fun _ h => by cases h) ?_
          refine sw_getIE (w := ((ra : Nat) : Int)) (dX9_next_2.at 1 rfl) fp_X9_108 (S_lt 49 (by decide)) (S_49 nw nx g) rfl rfl ?_
          refine sw_iconst (dX9_next_2.at 2 rfl) ?_
          refine sw_iadd (dX9_next_2.at 3 rfl) ?_
          refine sw_topI (y := ((ra + 1 : Nat) : Int)) (by first | rfl | (congr 1)) ?_
          refine sw_putI (dX9_next_2.at 4 rfl) fp_X9_108 (S_lt 49 (by decide)) (S_49 nw nx g) rfl ?_
          refine SW.cg (M' := (S nw nx g, 78 + gn, (rm c (ra + 1) ra 4 0 rz fk fp rk ln bo))) (congrArg (fun m => (S nw nx g, 78 + gn, m)) rm_8) ?_
          exact sw_vret (dX9_next_2.at 5 rfl) rfl (Nat.le_refl _) (Nat.le_refl _) hv
        · replace hv := hv.2 (bz_n0 q)
          refine sw_iconst (dX9_next_1.at 45 rfl) ?_
          refine sw_goto (tgt := 193) (dX9_next_1.at 46 rfl) (by decide) ?_
          refine sw_putI (dX9_next_1.at 48 rfl) fp_X9_121 (S_lt 49 (by decide)) (S_49 nw nx g) rfl ?_
          refine SW.cg (M' := (S nw nx g, 78 + gn, (rm c ra ra 3 0 rz fk fp rk ln bo))) (congrArg (fun m => (S nw nx g, 78 + gn, m)) rm_10) ?_
          refine sw_aload_n (dX9_next_1.at 49 rfl) rfl rfl ?_
          refine sw_dup (dX9_next_2.at 0 rfl) (fun _ h => by cases h) ?_
          refine sw_getIE (w := ((ra : Nat) : Int)) (dX9_next_2.at 1 rfl) fp_X9_108 (S_lt 49 (by decide)) (S_49 nw nx g) rfl rfl ?_
          refine sw_iconst (dX9_next_2.at 2 rfl) ?_
          refine sw_iadd (dX9_next_2.at 3 rfl) ?_
          refine sw_topI (y := ((ra + 1 : Nat) : Int)) (by first | rfl | (congr 1)) ?_
          refine sw_putI (dX9_next_2.at 4 rfl) fp_X9_108 (S_lt 49 (by decide)) (S_49 nw nx g) rfl ?_
          refine SW.cg (M' := (S nw nx g, 78 + gn, (rm c (ra + 1) ra 3 0 rz fk fp rk ln bo))) (congrArg (fun m => (S nw nx g, 78 + gn, m)) rm_8) ?_
          exact sw_vret (dX9_next_2.at 5 rfl) rfl (Nat.le_refl _) (Nat.le_refl _) hv
      · replace hv := hv.2 (bz_n0 q)
        refine sw_aload_n (dX9_next_1.at 8 rfl) rfl rfl ?_
        refine sw_iconst (dX9_next_1.at 9 rfl) ?_
        refine sw_putI (dX9_next_1.at 10 rfl) fp_X9_121 (S_lt 49 (by decide)) (S_49 nw nx g) rfl ?_
        refine SW.cg (M' := (S nw nx g, 78 + gn, (rm c ra ra 2 0 rz fk fp rk ln bo))) (congrArg (fun m => (S nw nx g, 78 + gn, m)) rm_10) ?_
        exact hv
    · replace hv := hv.2 (bz_n0 q)
      refine sw_aload_n (dX9_next_0.at 38 rfl) rfl rfl ?_
      refine sw_iconst (dX9_next_0.at 39 rfl) ?_
      refine sw_putI (dX9_next_0.at 40 rfl) fp_X9_121 (S_lt 49 (by decide)) (S_49 nw nx g) rfl ?_
      refine SW.cg (M' := (S nw nx g, 78 + gn, (rm c ra ra 1 0 rz fk fp rk ln bo))) (congrArg (fun m => (S nw nx g, 78 + gn, m)) rm_10) ?_
      exact hv
  · replace hv := hv.2.2.2 q
    refine sw_aload_n (dX9_next_0.at 29 rfl) rfl rfl ?_
    refine sw_iconst (dX9_next_0.at 30 rfl) ?_
    refine sw_putI (dX9_next_0.at 31 rfl) fp_X9_121 (S_lt 49 (by decide)) (S_49 nw nx g) rfl ?_
    refine SW.cg (M' := (S nw nx g, 78 + gn, (rm c ra ra 0 0 rz fk fp rk ln bo))) (congrArg (fun m => (S nw nx g, 78 + gn, m)) rm_10) ?_
    refine sw_goto (tgt := 206) (dX9_next_0.at 32 rfl) (by decide) ?_
    exact sw_vret (dX9_next_2.at 5 rfl) rfl (Nat.le_refl _) (Nat.le_refl _) hv

set_option maxHeartbeats 2000000 in
set_option maxRecDepth 20000 in
theorem g_X9_next_83 {G : GG} {j nw nx gn : Nat} {g : Nat → Sh} {c : Nat → Nat → Int} {post : Option AV → AM → Prop} {nb : Nat → Nat} {n : Nat} {ra : Nat} {rb : Nat} {rt : Nat} {rv : Nat} {rz : Bool} {fk : Nat} {fp : Int} {rk : Nat} {ln : Nat} {bo : Nat → Nat} (hS : c 49 1 = ((n : Nat) : Int)) (hn : n ≤ 300) (hB : ∀ i, nb i < 256) (hT : ∀ i, i < 300 → c 50 i = ((nb i : Nat) : Int))  (hv : (ra ≤ n) ∧ (97 < 256) ∧ (122 < 256) ∧ ((((decide (ra < n ∧ 97 ≤ nb ra ∧ nb ra ≤ 122)) = false) → post none (S nw nx g, 78 + gn, (rm c ra rb rt rv rz fk fp rk ln bo))) ∧ (((decide (ra < n ∧ 97 ≤ nb ra ∧ nb ra ≤ 122)) = true) → SW G (j + 2) mX9_next 83 [some (vr (49))] [] (S nw nx g, 78 + gn, (rm c (ra + 1) rb rt rv rz fk fp rk ln bo)) B0 post))) :
    SW G (j + 2) mX9_next 83 [some (vr (49))] [] (S nw nx g, 78 + gn, (rm c ra rb rt rv rz fk fp rk ln bo)) B0 post := by
  refine sw_aload_n (dX9_next_0.at 41 rfl) rfl rfl ?_
  refine sw_bipush (dX9_next_0.at 42 rfl) (by decide) ?_
  refine sw_bipush (dX9_next_0.at 43 rfl) (by decide) ?_
  refine sw_callV (B' := B0) (As := [vi (97), vi (122)]) (mc := 0) (ms := 0) (dX9_next_0.at 44 rfl) lk_X9_111 (S_lt 49 (by decide)) (S_49 nw nx g) rfl rfl (Nat.le_of_ble_eq_true rfl) rfl (Nat.le_refl _) (Nat.le_refl _) ?_
  refine c_X9_isAt (lo := 97) (hi := 122) (j := j + 0) hS hn hB hT hv.1 hv.2.1 hv.2.2.1 ?_
  replace hv := hv.2.2.2
  refine sw_if_eq (tgt := 206) (dX9_next_0.at 45 rfl) (by decide) (bz_rng _) (fun q => ?_) (fun q => ?_)
  · replace hv := hv.1 (bz_0 q)
    exact sw_vret (dX9_next_2.at 5 rfl) rfl (Nat.le_refl _) (Nat.le_refl _) hv
  · replace hv := hv.2 (bz_n0 q)
    refine sw_aload_n (dX9_next_0.at 46 rfl) rfl rfl ?_
    refine sw_dup (dX9_next_0.at 47 rfl) (fun _ h => by cases h) ?_
    refine sw_getIE (w := ((ra : Nat) : Int)) (dX9_next_0.at 48 rfl) fp_X9_108 (S_lt 49 (by decide)) (S_49 nw nx g) rfl rfl ?_
    refine sw_iconst (dX9_next_0.at 49 rfl) ?_
    refine sw_iadd (dX9_next_1.at 0 rfl) ?_
    refine sw_topI (y := ((ra + 1 : Nat) : Int)) (by first | rfl | (congr 1)) ?_
    refine sw_putI (dX9_next_1.at 1 rfl) fp_X9_108 (S_lt 49 (by decide)) (S_49 nw nx g) rfl ?_
    refine SW.cg (M' := (S nw nx g, 78 + gn, (rm c (ra + 1) rb rt rv rz fk fp rk ln bo))) (congrArg (fun m => (S nw nx g, 78 + gn, m)) rm_8) ?_
    refine sw_goto (tgt := 83) (dX9_next_1.at 2 rfl) (by decide) ?_
    exact hv

set_option maxHeartbeats 2000000 in
set_option maxRecDepth 20000 in
theorem g_X9_next_123 {G : GG} {j nw nx gn : Nat} {g : Nat → Sh} {c : Nat → Nat → Int} {post : Option AV → AM → Prop} {nb : Nat → Nat} {n : Nat} {ra : Nat} {rb : Nat} {rt : Nat} {rv : Nat} {rz : Bool} {fk : Nat} {fp : Int} {rk : Nat} {ln : Nat} {bo : Nat → Nat} (hS : c 49 1 = ((n : Nat) : Int)) (hn : n ≤ 300) (hB : ∀ i, nb i < 256) (hT : ∀ i, i < 300 → c 50 i = ((nb i : Nat) : Int))  (hv : (ra ≤ n) ∧ (48 < 256) ∧ (57 < 256) ∧ ((((decide (ra < n ∧ 48 ≤ nb ra ∧ nb ra ≤ 57)) = false) → post none (S nw nx g, 78 + gn, (rm c ra rb rt rv rz fk fp rk ln bo))) ∧ (((decide (ra < n ∧ 48 ≤ nb ra ∧ nb ra ≤ 57)) = true) → (ra < 300) ∧ ((48 ≤ (10 * rv) + (nb ra)) ∧ ((((10 * rv) + (nb ra)) - 48 < 2147483648) ∧ (SW G (j + 2) mX9_next 123 [some (vr (49))] [] (S nw nx g, 78 + gn, (rm c (ra + 1) rb rt (min 99999 (((10 * rv) + (nb ra)) - 48)) rz fk fp rk ln bo)) B0 post)))))) :
    SW G (j + 2) mX9_next 123 [some (vr (49))] [] (S nw nx g, 78 + gn, (rm c ra rb rt rv rz fk fp rk ln bo)) B0 post := by
  refine sw_aload_n (dX9_next_1.at 11 rfl) rfl rfl ?_
  refine sw_bipush (dX9_next_1.at 12 rfl) (by decide) ?_
  refine sw_bipush (dX9_next_1.at 13 rfl) (by decide) ?_
  refine sw_callV (B' := B0) (As := [vi (48), vi (57)]) (mc := 0) (ms := 0) (dX9_next_1.at 14 rfl) lk_X9_111 (S_lt 49 (by decide)) (S_49 nw nx g) rfl rfl (Nat.le_of_ble_eq_true rfl) rfl (Nat.le_refl _) (Nat.le_refl _) ?_
  refine c_X9_isAt (lo := 48) (hi := 57) (j := j + 0) hS hn hB hT hv.1 hv.2.1 hv.2.2.1 ?_
  replace hv := hv.2.2.2
  refine sw_if_eq (tgt := 206) (dX9_next_1.at 15 rfl) (by decide) (bz_rng _) (fun q => ?_) (fun q => ?_)
  · replace hv := hv.1 (bz_0 q)
    exact sw_vret (dX9_next_2.at 5 rfl) rfl (Nat.le_refl _) (Nat.le_refl _) hv
  · replace hv := hv.2 (bz_n0 q)
    refine sw_aload_n (dX9_next_1.at 16 rfl) rfl rfl ?_
    refine sw_ldc (z := 99999) (dX9_next_1.at 17 rfl) kc_X9_124 (by decide) ?_
    refine sw_bipush (dX9_next_1.at 18 rfl) (by decide) ?_
    refine sw_aload_n (dX9_next_1.at 19 rfl) rfl rfl ?_
    refine sw_getIE (w := ((rv : Nat) : Int)) (dX9_next_1.at 20 rfl) fp_X9_118 (S_lt 49 (by decide)) (S_49 nw nx g) rfl rfl ?_
    refine sw_imul (dX9_next_1.at 21 rfl) ?_
    refine sw_topI (y := ((10 * rv : Nat) : Int)) (by first | rfl | (congr 1)) ?_
    refine sw_aload_n (dX9_next_1.at 22 rfl) rfl rfl ?_
    refine sw_getR (dX9_next_1.at 23 rfl) fp_X9_7 (S_lt 49 (by decide)) (S_49 nw nx g) rfl rfl ?_
    refine sw_aload_n (dX9_next_1.at 24 rfl) rfl rfl ?_
    refine sw_getIE (w := ((ra : Nat) : Int)) (dX9_next_1.at 25 rfl) fp_X9_108 (S_lt 49 (by decide)) (S_49 nw nx g) rfl rfl ?_
    refine sw_ialdN ra (w := ((nb ra : Nat) : Int)) (dX9_next_1.at 26 rfl) (S_lt 50 (by decide)) (S_50 nw nx g) (by decide) hv.1 (hT _ hv.1) ?_
    replace hv := hv.2
    refine sw_iadd (dX9_next_1.at 27 rfl) ?_
    refine sw_topI (y := (((10 * rv) + (nb ra) : Nat) : Int)) (by first | rfl | (congr 1)) ?_
    refine sw_bipush (dX9_next_1.at 28 rfl) (by decide) ?_
    refine sw_isub (dX9_next_1.at 29 rfl) ?_
    refine sw_topI (y := ((((10 * rv) + (nb ra)) - 48 : Nat) : Int)) (congrArg _ (Int.ofNat_sub hv.1).symm) ?_
    replace hv := hv.2
    refine sw_imin (dX9_next_1.at 30 rfl) lk_X9_125 (Nat.le_of_ble_eq_true rfl) (Nat.le_refl _) (Nat.le_refl _) (by decide) (nrng hv.1) ?_
    refine sw_topI (y := (((min 99999 (((10 * rv) + (nb ra)) - 48)) : Nat) : Int)) (congrArg _ (min_if _ _)) ?_
    replace hv := hv.2
    refine sw_putI (dX9_next_1.at 31 rfl) fp_X9_118 (S_lt 49 (by decide)) (S_49 nw nx g) rfl ?_
    refine SW.cg (M' := (S nw nx g, 78 + gn, (rm c ra rb rt (min 99999 (((10 * rv) + (nb ra)) - 48)) rz fk fp rk ln bo))) (congrArg (fun m => (S nw nx g, 78 + gn, m)) rm_11) ?_
    refine sw_aload_n (dX9_next_1.at 32 rfl) rfl rfl ?_
    refine sw_dup (dX9_next_1.at 33 rfl) (fun _ h => by cases h) ?_
    refine sw_getIE (w := ((ra : Nat) : Int)) (dX9_next_1.at 34 rfl) fp_X9_108 (S_lt 49 (by decide)) (S_49 nw nx g) rfl rfl ?_
    refine sw_iconst (dX9_next_1.at 35 rfl) ?_
    refine sw_iadd (dX9_next_1.at 36 rfl) ?_
    refine sw_topI (y := ((ra + 1 : Nat) : Int)) (by first | rfl | (congr 1)) ?_
    refine sw_putI (dX9_next_1.at 37 rfl) fp_X9_108 (S_lt 49 (by decide)) (S_49 nw nx g) rfl ?_
    refine SW.cg (M' := (S nw nx g, 78 + gn, (rm c (ra + 1) rb rt (min 99999 (((10 * rv) + (nb ra)) - 48)) rz fk fp rk ln bo))) (congrArg (fun m => (S nw nx g, 78 + gn, m)) rm_8) ?_
    refine sw_goto (tgt := 123) (dX9_next_1.at 38 rfl) (by decide) ?_
    exact hv

set_option maxHeartbeats 4000000 in
theorem lp_X9_next_0 {G : GG} {j nw nx gn : Nat} {g : Nat → Sh} {c : Nat → Nat → Int} {post : Option AV → AM → Prop} {nb : Nat → Nat} {n : Nat} {rb : Nat} {rt : Nat} {rv : Nat} {rz : Bool} {fk : Nat} {fp : Int} {rk : Nat} {ln : Nat} {bo : Nat → Nat} (hS : c 49 1 = ((n : Nat) : Int)) (hn : n ≤ 300) (hB : ∀ i, nb i < 256) (hT : ∀ i, i < 300 → c 50 i = ((nb i : Nat) : Int)) : ∀ k ra : Nat, ra + k = n → SW G (j + 2) mX9_next 35 [some (vr (49))] [] (S nw nx g, 78 + gn, (rm c (skB nb k ra) rb rt rv rz fk fp rk ln bo)) B0 post → SW G (j + 2) mX9_next 0 [some (vr (49))] [] (S nw nx g, 78 + gn, (rm c ra rb rt rv rz fk fp rk ln bo)) B0 post := by
  intro k
  induction k with
  | zero =>
    intro ra hi K
    refine g_X9_next_0 hS hn hB hT ?_
    refine ⟨?_, ?_, ?_, ⟨fun q => ?_, fun q => ⟨?_, ?_, ?_, ⟨fun q => ?_, fun q => ?_⟩⟩⟩⟩
    all_goals (try simp only [decide_eq_true_eq, decide_eq_false_iff_not] at *)
    all_goals first | omega | exact K | (exfalso; omega)
  | succ k ih =>
    intro ra hi K
    simp only [skB] at K
    refine g_X9_next_0 hS hn hB hT ?_
    by_cases h : nb ra = 32 ∨ nb ra = 10
    · rw [if_pos h] at K
      refine ⟨?_, ?_, ?_, ⟨fun q => ?_, fun q => ⟨?_, ?_, ?_, ⟨fun q => ?_, fun q => ?_⟩⟩⟩⟩
      all_goals (try simp only [decide_eq_true_eq, decide_eq_false_iff_not] at *)
      all_goals first | omega | exact ih _ (by omega) K | (exfalso; omega)
    · rw [if_neg h] at K
      refine ⟨?_, ?_, ?_, ⟨fun q => ?_, fun q => ⟨?_, ?_, ?_, ⟨fun q => ?_, fun q => ?_⟩⟩⟩⟩
      all_goals (try simp only [decide_eq_true_eq, decide_eq_false_iff_not] at *)
      all_goals first | omega | exact K | (exfalso; omega)
set_option maxHeartbeats 4000000 in
theorem lp_X9_next_83 {G : GG} {j nw nx gn : Nat} {g : Nat → Sh} {c : Nat → Nat → Int} {post : Option AV → AM → Prop} {nb : Nat → Nat} {n : Nat} {rb : Nat} {rt : Nat} {rv : Nat} {rz : Bool} {fk : Nat} {fp : Int} {rk : Nat} {ln : Nat} {bo : Nat → Nat} (hS : c 49 1 = ((n : Nat) : Int)) (hn : n ≤ 300) (hB : ∀ i, nb i < 256) (hT : ∀ i, i < 300 → c 50 i = ((nb i : Nat) : Int)) : ∀ k ra : Nat, ra + k = n → post none (S nw nx g, 78 + gn, (rm c (rnE nb 1 k ra) rb rt rv rz fk fp rk ln bo)) → SW G (j + 2) mX9_next 83 [some (vr (49))] [] (S nw nx g, 78 + gn, (rm c ra rb rt rv rz fk fp rk ln bo)) B0 post := by
  intro k
  induction k with
  | zero =>
    intro ra hi K
    refine g_X9_next_83 hS hn hB hT ?_
    refine ⟨?_, ?_, ?_, ⟨fun q => ?_, fun q => ?_⟩⟩
    all_goals (try simp only [decide_eq_true_eq, decide_eq_false_iff_not] at *)
    all_goals first | omega | exact K | (exfalso; omega)
  | succ k ih =>
    intro ra hi K
    have e1 := kd_1 (nb ra)
    simp only [rnE] at K
    refine g_X9_next_83 hS hn hB hT ?_
    by_cases h : kd (nb ra) = 1
    · rw [if_pos h] at K
      refine ⟨?_, ?_, ?_, ⟨fun q => ?_, fun q => ?_⟩⟩
      all_goals (try simp only [decide_eq_true_eq, decide_eq_false_iff_not] at *)
      all_goals first | omega | exact ih _ (by omega) K | (exfalso; omega)
    · rw [if_neg h] at K
      refine ⟨?_, ?_, ?_, ⟨fun q => ?_, fun q => ?_⟩⟩
      all_goals (try simp only [decide_eq_true_eq, decide_eq_false_iff_not] at *)
      all_goals first | omega | exact K | (exfalso; omega)
set_option maxHeartbeats 4000000 in
theorem lp_X9_next_123 {G : GG} {j nw nx gn : Nat} {g : Nat → Sh} {c : Nat → Nat → Int} {post : Option AV → AM → Prop} {nb : Nat → Nat} {n : Nat} {rb : Nat} {rt : Nat} {rz : Bool} {fk : Nat} {fp : Int} {rk : Nat} {ln : Nat} {bo : Nat → Nat} (hS : c 49 1 = ((n : Nat) : Int)) (hn : n ≤ 300) (hB : ∀ i, nb i < 256) (hT : ∀ i, i < 300 → c 50 i = ((nb i : Nat) : Int)) : ∀ k ra rv : Nat, ra + k = n → rv ≤ 99999 → post none (S nw nx g, 78 + gn, (rm c (rnE nb 2 k ra) rb rt (vlR nb (rnE nb 2 k ra - ra) ra rv) rz fk fp rk ln bo)) → SW G (j + 2) mX9_next 123 [some (vr (49))] [] (S nw nx g, 78 + gn, (rm c ra rb rt rv rz fk fp rk ln bo)) B0 post := by
  intro k
  induction k with
  | zero =>
    intro ra rv hi hv K
    have e : rnE nb 2 0 ra - ra = 0 := by unfold rnE; omega
    rw [e] at K
    refine g_X9_next_123 hS hn hB hT ?_
    refine ⟨?_, ?_, ?_, ⟨fun q => ?_, fun q => ⟨?_, ⟨?_, ⟨?_, ?_⟩⟩⟩⟩⟩
    all_goals (try simp only [decide_eq_true_eq, decide_eq_false_iff_not] at *)
    all_goals first | omega | exact K | (exfalso; omega)
  | succ k ih =>
    intro ra rv hi hv K
    have e1 := kd_2 (nb ra)
    refine g_X9_next_123 hS hn hB hT ?_
    by_cases h : kd (nb ra) = 2
    · have e : rnE nb 2 (k + 1) ra = rnE nb 2 k (ra + 1) := by rw [rnE, if_pos h]
      have e2 : rnE nb 2 (k + 1) ra - ra = (rnE nb 2 k (ra + 1) - (ra + 1)) + 1 := by have := rnE_le nb 2 k (ra + 1); omega
      rw [e2, e] at K
      simp only [vlR] at K
      have h48 := e1.mp h
      have hm : min 99999 (10 * rv + nb ra - 48) ≤ 99999 := Nat.min_le_left _ _
      refine ⟨?_, ?_, ?_, ⟨fun q => ?_, fun q => ⟨?_, ⟨?_, ⟨?_, ?_⟩⟩⟩⟩⟩
      all_goals (try simp only [decide_eq_true_eq, decide_eq_false_iff_not] at *)
      all_goals first | omega | exact ih _ _ (by omega) hm K | (exfalso; omega)
    · have e : rnE nb 2 (k + 1) ra = ra := by rw [rnE, if_neg h]
      have e2 : rnE nb 2 (k + 1) ra - ra = 0 := by omega
      rw [e2, e] at K
      refine ⟨?_, ?_, ?_, ⟨fun q => ?_, fun q => ⟨?_, ⟨?_, ⟨?_, ?_⟩⟩⟩⟩⟩
      all_goals (try simp only [decide_eq_true_eq, decide_eq_false_iff_not] at *)
      all_goals first | omega | exact K | (exfalso; omega)
set_option maxHeartbeats 4000000 in
theorem c_X9_next {G : GG} {j nw nx gn : Nat} {g : Nat → Sh} {c : Nat → Nat → Int} {post : Option AV → AM → Prop} {nb : Nat → Nat} {n : Nat} {ra : Nat} {rb : Nat} {rt : Nat} {rv : Nat} {rz : Bool} {fk : Nat} {fp : Int} {rk : Nat} {ln : Nat} {bo : Nat → Nat} (hS : c 49 1 = ((n : Nat) : Int)) (hn : n ≤ 300) (hB : ∀ i, nb i < 256) (hT : ∀ i, i < 300 → c 50 i = ((nb i : Nat) : Int)) (p1 : ra ≤ n) (K : post none (S nw nx g, 78 + gn, (rm c (tkT nb n ra) (tkF nb n ra) (tkK nb n ra) (vlS nb n ra) rz fk fp rk ln bo))) : SM G (j + 3) mX9_next [vr (49)] (S nw nx g, 78 + gn, (rm c ra rb rt rv rz fk fp rk ln bo)) 0 0 post := by
  refine sm_of wX9_next rfl (Nat.le_of_ble_eq_true rfl) ?_
  refine lp_X9_next_0 hS hn hB hT (n - ra) ra (by omega) ?_
  have e0 : skB nb (n - ra) ra = tkF nb n ra := rfl
  rw [e0]
  have h0 := tkF_le (nb := nb) p1
  have e4 := kd_le (nb (tkF nb n ra))
  have e5 := kd_1 (nb (tkF nb n ra))
  have e6 := kd_2 (nb (tkF nb n ra))
  have e7 := kd_3 (nb (tkF nb n ra))
  refine g_X9_next_35 (ra := tkF nb n ra) hS hn hB hT ?_
  by_cases h : tkF nb n ra < n
  · have k1 : tkK nb n ra = kd (nb (tkF nb n ra)) := if_pos h
    by_cases h1 : kd (nb (tkF nb n ra)) = 1
    · have k2 : tkT nb n ra = rnE nb 1 (n - tkF nb n ra) (tkF nb n ra) := by
        have e : n - tkF nb n ra = (n - (tkF nb n ra + 1)) + 1 := by omega
        rw [tkT, if_pos h, if_pos (Or.inl h1), e, rnE, if_pos h1, h1]
      have k3 : vlS nb n ra = 0 := by rw [vlS, k1, if_neg (by omega)]
      rw [k1, k2, k3, h1] at K
      refine ⟨?_, ?_, ⟨fun q => ⟨?_, ?_, ?_, ⟨fun q => ⟨?_, ?_, ?_, ⟨fun q => ⟨?_, ?_, ?_, ⟨fun q => ?_, fun q => ?_⟩⟩, fun q => ?_⟩⟩, fun q => ?_⟩⟩, fun q => ?_⟩⟩
      all_goals (try simp only [decide_eq_true_eq, decide_eq_false_iff_not] at *)
      all_goals first | omega | exact lp_X9_next_83 hS hn hB hT _ _ (by omega) K | (exfalso; omega)
    · by_cases h2 : kd (nb (tkF nb n ra)) = 2
      · have k2 : tkT nb n ra = rnE nb 2 (n - tkF nb n ra) (tkF nb n ra) := by
          have e : n - tkF nb n ra = (n - (tkF nb n ra + 1)) + 1 := by omega
          rw [tkT, if_pos h, if_pos (Or.inr h2), e, rnE, if_pos h2, h2]
        have k3 : vlS nb n ra = vlR nb (tkT nb n ra - tkF nb n ra) (tkF nb n ra) 0 := by rw [vlS, k1, if_pos h2]
        rw [k1, k3, k2, h2] at K
        refine ⟨?_, ?_, ⟨fun q => ⟨?_, ?_, ?_, ⟨fun q => ⟨?_, ?_, ?_, ⟨fun q => ⟨?_, ?_, ?_, ⟨fun q => ?_, fun q => ?_⟩⟩, fun q => ?_⟩⟩, fun q => ?_⟩⟩, fun q => ?_⟩⟩
        all_goals (try simp only [decide_eq_true_eq, decide_eq_false_iff_not] at *)
        all_goals first | omega | exact lp_X9_next_123 hS hn hB hT _ _ _ (by omega) (by omega) K | (exfalso; omega)
      · have k2 : tkT nb n ra = tkF nb n ra + 1 := by rw [tkT, if_pos h, if_neg (by omega)]
        have k3 : vlS nb n ra = 0 := by rw [vlS, k1, if_neg h2]
        by_cases h3 : kd (nb (tkF nb n ra)) = 3
        · rw [k1, k2, k3, h3] at K
          refine ⟨?_, ?_, ⟨fun q => ⟨?_, ?_, ?_, ⟨fun q => ⟨?_, ?_, ?_, ⟨fun q => ⟨?_, ?_, ?_, ⟨fun q => ?_, fun q => ?_⟩⟩, fun q => ?_⟩⟩, fun q => ?_⟩⟩, fun q => ?_⟩⟩
          all_goals (try simp only [decide_eq_true_eq, decide_eq_false_iff_not] at *)
          all_goals first | omega | exact K | (exfalso; omega)
        · have h4 : kd (nb (tkF nb n ra)) = 4 := by omega
          rw [k1, k2, k3, h4] at K
          refine ⟨?_, ?_, ⟨fun q => ⟨?_, ?_, ?_, ⟨fun q => ⟨?_, ?_, ?_, ⟨fun q => ⟨?_, ?_, ?_, ⟨fun q => ?_, fun q => ?_⟩⟩, fun q => ?_⟩⟩, fun q => ?_⟩⟩, fun q => ?_⟩⟩
          all_goals (try simp only [decide_eq_true_eq, decide_eq_false_iff_not] at *)
          all_goals first | omega | exact K | (exfalso; omega)
  · have k1 : tkK nb n ra = 0 := if_neg h
    have k2 : tkT nb n ra = n := if_neg h
    have k3 : vlS nb n ra = 0 := by rw [vlS, k1, if_neg (by decide)]
    have k4 : tkF nb n ra = n := by omega
    rw [k1, k2, k3] at K
    rw [k4] at K ⊢
    refine ⟨?_, ?_, ⟨fun q => ⟨?_, ?_, ?_, ⟨fun q => ⟨?_, ?_, ?_, ⟨fun q => ⟨?_, ?_, ?_, ⟨fun q => ?_, fun q => ?_⟩⟩, fun q => ?_⟩⟩, fun q => ?_⟩⟩, fun q => ?_⟩⟩
    all_goals (try simp only [decide_eq_true_eq, decide_eq_false_iff_not] at *)
    all_goals first | omega | exact K | (exfalso; omega)

