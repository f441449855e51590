/-! TOKENS: nb: the bytes fed (0 to 255), n: how many; a token is told by the place p where the one before ended -/
def kd (z : Nat) : Nat := if 97 ≤ z ∧ z ≤ 122 then 1 else if 48 ≤ z ∧ z ≤ 57 then 2 else if z = 59 then 3 else 4
def kdI (z : Int) : Nat := if 97 ≤ z ∧ z ≤ 122 then 1 else if 48 ≤ z ∧ z ≤ 57 then 2 else if z = 59 then 3 else 4
def sb (v : Nat) : Int := if v < 128 then (v : Int) else (v : Int) - 256
theorem sb_kd {v : Nat} (h : v < 256) : kdI (sb v) = kd v := by
  unfold kdI kd sb
  by_cases h1 : v < 128
  · rw [if_pos h1]
    (repeat' split) <;> first | rfl | omega
  · rw [if_neg h1]
    (repeat' split) <;> first | rfl | omega
theorem sb_rng {v : Nat} (h : v < 256) : -128 ≤ sb v ∧ sb v < 128 := by
  unfold sb
  split <;> omega
theorem sb_eq {v : Nat} (h : v < 256) (a : Nat) (ha : a < 128) : sb v = (a : Int) ↔ v = a := by
  unfold sb
  split <;> omega
theorem kd_le (v : Nat) : 1 ≤ kd v ∧ kd v ≤ 4 := by
  unfold kd
  (repeat' split) <;> omega
theorem kd_1 (v : Nat) : kd v = 1 ↔ 97 ≤ v ∧ v ≤ 122 := by
  unfold kd
  (repeat' split) <;> omega
theorem kd_2 (v : Nat) : kd v = 2 ↔ 48 ≤ v ∧ v ≤ 57 := by
  unfold kd
  (repeat' split) <;> omega
theorem kd_3 (v : Nat) : kd v = 3 ↔ v = 59 := by
  unfold kd
  (repeat' split) <;> omega
def skB (nb : Nat → Nat) : Nat → Nat → Nat
  | 0, i => i
  | k + 1, i => if nb i = 32 ∨ nb i = 10 then skB nb k (i + 1) else i
def rnE (nb : Nat → Nat) (kk : Nat) : Nat → Nat → Nat
  | 0, i => i
  | k + 1, i => if kd (nb i) = kk then rnE nb kk k (i + 1) else i
def tkF (nb : Nat → Nat) (n p : Nat) : Nat := skB nb (n - p) p
def tkK (nb : Nat → Nat) (n p : Nat) : Nat := if tkF nb n p < n then kd (nb (tkF nb n p)) else 0
def tkT (nb : Nat → Nat) (n p : Nat) : Nat := if tkF nb n p < n then (if kd (nb (tkF nb n p)) = 1 ∨ kd (nb (tkF nb n p)) = 2 then rnE nb (kd (nb (tkF nb n p))) (n - (tkF nb n p + 1)) (tkF nb n p + 1) else tkF nb n p + 1) else n
theorem skB_le (nb : Nat → Nat) : ∀ k i, i ≤ skB nb k i ∧ skB nb k i ≤ i + k := by
  intro k
  induction k with
  | zero => intro i; exact ⟨Nat.le_refl _, Nat.le_refl _⟩
  | succ k ih =>
    intro i
    unfold skB
    split
    · have := ih (i + 1); omega
    · omega
theorem rnE_le (nb : Nat → Nat) (kk : Nat) : ∀ k i, i ≤ rnE nb kk k i ∧ rnE nb kk k i ≤ i + k := by
  intro k
  induction k with
  | zero => intro i; exact ⟨Nat.le_refl _, Nat.le_refl _⟩
  | succ k ih =>
    intro i
    unfold rnE
    split
    · have := ih (i + 1); omega
    · omega
theorem rnE_kd (nb : Nat → Nat) (kk : Nat) : ∀ k i q, i ≤ q → q < rnE nb kk k i → kd (nb q) = kk := by
  intro k
  induction k with
  | zero => intro i q h1 h2; exact absurd h2 (by unfold rnE; omega)
  | succ k ih =>
    intro i q h1 h2
    unfold rnE at h2
    split at h2
    · rename_i h
      by_cases e : q = i
      · rw [e]; exact h
      · exact ih (i + 1) q (by omega) h2
    · omega
section TKS
variable {nb : Nat → Nat} {n p : Nat}
theorem tkF_le (h : p ≤ n) : p ≤ tkF nb n p ∧ tkF nb n p ≤ n := by
  have := skB_le nb (n - p) p
  unfold tkF
  omega
theorem tkT_le (h : p ≤ n) : tkF nb n p ≤ tkT nb n p ∧ tkT nb n p ≤ n := by
  have h1 := tkF_le (nb := nb) h
  unfold tkT
  split
  · split
    · have := rnE_le nb (kd (nb (tkF nb n p))) (n - (tkF nb n p + 1)) (tkF nb n p + 1)
      omega
    · omega
  · omega
theorem tkK_0 : tkK nb n p = 0 ↔ ¬ tkF nb n p < n := by
  have := kd_le (nb (tkF nb n p))
  unfold tkK
  split <;> omega
theorem tkT_gt (h : p ≤ n) (h0 : tkK nb n p ≠ 0) : p < tkT nb n p := by
  have h1 := tkF_le (nb := nb) h
  have h2 : tkF nb n p < n := Decidable.byContradiction fun q => h0 (tkK_0.mpr q)
  unfold tkT
  rw [if_pos h2]
  split
  · have := rnE_le nb (kd (nb (tkF nb n p))) (n - (tkF nb n p + 1)) (tkF nb n p + 1)
    omega
  · omega
theorem tk_kd (h0 : tkK nb n p ≠ 0) {q : Nat} (h1 : tkF nb n p ≤ q) (h2 : q < tkT nb n p) : kd (nb q) = tkK nb n p := by
  have h3 : tkF nb n p < n := Decidable.byContradiction fun q => h0 (tkK_0.mpr q)
  unfold tkK
  rw [if_pos h3]
  unfold tkT at h2
  rw [if_pos h3] at h2
  by_cases e : q = tkF nb n p
  · rw [e]
  · split at h2
    · exact rnE_kd nb _ _ _ q (by omega) h2
    · omega
end TKS
/-- the class's number of a token -/
def vlC (nb : Nat → Nat) : Nat → Nat → Nat → Nat
  | 0, _, v => v
  | k + 1, i, v => vlC nb k (i + 1) (if v < 1000 then v * 10 + nb i - 48 else v)
/-- the reference's -/
def vlR (nb : Nat → Nat) : Nat → Nat → Nat → Nat
  | 0, _, v => v
  | k + 1, i, v => vlR nb k (i + 1) (min 99999 (10 * v + nb i - 48))
theorem vl_CR (nb : Nat → Nat) : ∀ k i v w, (v = w ∨ (1000 ≤ v ∧ 1000 ≤ w)) → (∀ q, i ≤ q → q < i + k → 48 ≤ nb q ∧ nb q ≤ 57) → (vlC nb k i v = vlR nb k i w ∨ (1000 ≤ vlC nb k i v ∧ 1000 ≤ vlR nb k i w)) := by
  intro k
  induction k with
  | zero => intro i v w h _; exact h
  | succ k ih =>
    intro i v w h hd
    unfold vlC vlR
    have h1 := hd i (Nat.le_refl _) (by omega)
    refine ih _ _ _ ?_ (fun q a b => hd q (by omega) (by omega))
    by_cases hv : v < 1000
    · rw [if_pos hv]
      omega
    · rw [if_neg hv]
      omega
theorem vlC_le (nb : Nat → Nat) : ∀ k i v, v ≤ 9999 → (∀ q, i ≤ q → q < i + k → 48 ≤ nb q ∧ nb q ≤ 57) → vlC nb k i v ≤ 9999 := by
  intro k
  induction k with
  | zero => intro i v h _; exact h
  | succ k ih =>
    intro i v h hd
    unfold vlC
    have h1 := hd i (Nat.le_refl _) (by omega)
    refine ih _ _ ?_ (fun q a b => hd q (by omega) (by omega))
    split <;> omega
theorem vlR_le (nb : Nat → Nat) : ∀ k i v, v ≤ 99999 → vlR nb k i v ≤ 99999 := by
  intro k
  induction k with
  | zero => intro i v h; exact h
  | succ k ih =>
    intro i v h
    unfold vlR
    exact ih _ _ (Nat.min_le_left _ _)
def wdG (nb : Nat → Nat) (tk tf tt : Nat) : Bool := decide (tk = 1 ∧ tt = tf + 5 ∧ nb tf = 103 ∧ nb (tf + 1) = 114 ∧ nb (tf + 2) = 111 ∧ nb (tf + 3) = 117 ∧ nb (tf + 4) = 112)
def wdB (nb : Nat → Nat) (tk tf tt : Nat) : Bool := decide (tk = 1 ∧ tt = tf + 4 ∧ nb tf = 98 ∧ nb (tf + 1) = 111 ∧ nb (tf + 2) = 110 ∧ nb (tf + 3) = 100)
/-- the class's memory while it reads -/
def pm (c : Nat → Nat → Int) (tk tf tt rr ll ff : Nat) (pl : Int) (bd : Nat → Nat) : Nat → Nat → Int := fun a i =>
  if a = 1 then (if i = 2 then (tk : Int) else if i = 3 then (tf : Int) else if i = 4 then (tt : Int) else c 1 i)
  else if a = 3 then (if i = 1 then (rr : Int) else if i = 2 then (ll : Int) else if i = 3 then (ff : Int) else if i = 4 then pl else c 3 i)
  else if a = 4 then (if i < 25 then ((bd i : Nat) : Int) else c 4 i) else c a i
section PMs
variable {c : Nat → Nat → Int} {tk tf tt rr ll ff : Nat} {pl : Int} {bd : Nat → Nat}
theorem pm_12 {z : Nat} : up2 (pm c tk tf tt rr ll ff pl bd) 1 2 ((z : Nat) : Int) = pm c z tf tt rr ll ff pl bd := by
  funext a i
  by_cases h1 : a = 1
  · subst h1
    by_cases h2 : i = 2
    · subst h2; rfl
    · simp [up2, pm, h2]
  · simp [up2, h1, pm]
theorem pm_13 {z : Nat} : up2 (pm c tk tf tt rr ll ff pl bd) 1 3 ((z : Nat) : Int) = pm c tk z tt rr ll ff pl bd := by
  funext a i
  by_cases h1 : a = 1
  · subst h1
    by_cases h2 : i = 3
    · subst h2; rfl
    · simp [up2, pm, h2]
  · simp [up2, h1, pm]
theorem pm_14 {z : Nat} : up2 (pm c tk tf tt rr ll ff pl bd) 1 4 ((z : Nat) : Int) = pm c tk tf z rr ll ff pl bd := by
  funext a i
  by_cases h1 : a = 1
  · subst h1
    by_cases h2 : i = 4
    · subst h2; rfl
    · simp [up2, pm, h2]
  · simp [up2, h1, pm]
theorem pm_31 {z : Nat} : up2 (pm c tk tf tt rr ll ff pl bd) 3 1 ((z : Nat) : Int) = pm c tk tf tt z ll ff pl bd := by
  funext a i
  by_cases h1 : a = 3
  · subst h1
    by_cases h2 : i = 1
    · subst h2; rfl
    · simp [up2, pm, h2]
  · simp [up2, h1, pm]
theorem pm_32 {z : Nat} : up2 (pm c tk tf tt rr ll ff pl bd) 3 2 ((z : Nat) : Int) = pm c tk tf tt rr z ff pl bd := by
  funext a i
  by_cases h1 : a = 3
  · subst h1
    by_cases h2 : i = 2
    · subst h2; rfl
    · simp [up2, pm, h2]
  · simp [up2, h1, pm]
theorem pm_33 {z : Nat} : up2 (pm c tk tf tt rr ll ff pl bd) 3 3 ((z : Nat) : Int) = pm c tk tf tt rr ll z pl bd := by
  funext a i
  by_cases h1 : a = 3
  · subst h1
    by_cases h2 : i = 3
    · subst h2; rfl
    · simp [up2, pm, h2]
  · simp [up2, h1, pm]
theorem pm_34 {z : Int} : up2 (pm c tk tf tt rr ll ff pl bd) 3 4 z = pm c tk tf tt rr ll ff z bd := by
  funext a i
  by_cases h1 : a = 3
  · subst h1
    by_cases h2 : i = 4
    · subst h2; rfl
    · simp [up2, pm, h2]
  · simp [up2, h1, pm]
theorem pm_r4 (c : Nat → Nat → Int) (tk tf tt rr ll ff : Nat) (pl : Int) (bd : Nat → Nat) {x : Nat} (h : x < 25) : pm c tk tf tt rr ll ff pl bd 4 x = ((bd x : Nat) : Int) := by
  show (if x < 25 then ((bd x : Nat) : Int) else c 4 x) = _
  rw [if_pos h]
theorem pm_a4 {k v : Nat} (h : k < 25) : up2 (pm c tk tf tt rr ll ff pl bd) 4 k ((v : Nat) : Int) = pm c tk tf tt rr ll ff pl (uN bd k v) := by
  funext a i
  by_cases h1 : a = 4
  · subst h1
    by_cases h2 : i = k
    · subst h2; simp [up2, pm, uN, h]
    · simp [up2, pm, h2, uN]
  · simp [up2, h1, pm]
theorem pm_bd {b2 : Nat → Nat} (h : ∀ i, i < 25 → bd i = b2 i) : pm c tk tf tt rr ll ff pl bd = pm c tk tf tt rr ll ff pl b2 := by
  funext a i
  by_cases h1 : a = 4
  · subst h1
    by_cases h2 : i < 25
    · simp [pm, h2, h i h2]
    · simp [pm, h2]
  · simp [h1, pm]
end PMs
set_option maxHeartbeats 2000000 in
set_option maxRecDepth 20000 in
theorem g_X6_kindOf_0 {G : GG} {j nw nx gn : Nat} {g : Nat → Sh} {c : Nat → Nat → Int} {post : Option AV → AM → Prop} {z : Int}  (hv : (-2147483648 ≤ z ∧ z < 2147483648) ∧ (((z < 97) → (-2147483648 ≤ z ∧ z < 2147483648) ∧ (((z < 48) → (-2147483648 ≤ z ∧ z < 2147483648) ∧ (((z ≠ 59) → post (some (vi (4))) (S nw nx g, 78 + gn, c)) ∧ ((z = 59) → post (some (vi (3))) (S nw nx g, 78 + gn, c)))) ∧ ((¬ (z < 48)) → (-2147483648 ≤ z ∧ z < 2147483648) ∧ (((57 < z) → (-2147483648 ≤ z ∧ z < 2147483648) ∧ (((z ≠ 59) → post (some (vi (4))) (S nw nx g, 78 + gn, c)) ∧ ((z = 59) → post (some (vi (3))) (S nw nx g, 78 + gn, c)))) ∧ ((¬ (57 < z)) → post (some (vi (2))) (S nw nx g, 78 + gn, c)))))) ∧ ((¬ (z < 97)) → (-2147483648 ≤ z ∧ z < 2147483648) ∧ (((122 < z) → (-2147483648 ≤ z ∧ z < 2147483648) ∧ (((z < 48) → (-2147483648 ≤ z ∧ z < 2147483648) ∧ (((z ≠ 59) → post (some (vi (4))) (S nw nx g, 78 + gn, c)) ∧ ((z = 59) → post (some (vi (3))) (S nw nx g, 78 + gn, c)))) ∧ ((¬ (z < 48)) → (-2147483648 ≤ z ∧ z < 2147483648) ∧ (((57 < z) → (-2147483648 ≤ z ∧ z < 2147483648) ∧ (((z ≠ 59) → post (some (vi (4))) (S nw nx g, 78 + gn, c)) ∧ ((z = 59) → post (some (vi (3))) (S nw nx g, 78 + gn, c)))) ∧ ((¬ (57 < z)) → post (some (vi (2))) (S nw nx g, 78 + gn, c)))))) ∧ ((¬ (122 < z)) → post (some (vi (1))) (S nw nx g, 78 + gn, c)))))) :
    SW G (j + 0) mX6_kindOf 0 [some (vi (z))] [] (S nw nx g, 78 + gn, c) B0 post := by
  refine sw_iload_n (dX6_kindOf.at 0 rfl) rfl rfl ?_
  refine sw_bipush (dX6_kindOf.at 1 rfl) (by decide) ?_
  refine sw_icmp_lt (tgt := 14) (dX6_kindOf.at 2 rfl) (by decide) hv.1 (by decide) (fun q => ?_) (fun q => ?_)
  · replace hv := hv.2.1 q
    refine sw_iload_n (dX6_kindOf.at 8 rfl) rfl rfl ?_
    refine sw_bipush (dX6_kindOf.at 9 rfl) (by decide) ?_
    refine sw_icmp_lt (tgt := 28) (dX6_kindOf.at 10 rfl) (by decide) hv.1 (by decide) (fun q => ?_) (fun q => ?_)
    · replace hv := hv.2.1 q
      refine sw_iload_n (dX6_kindOf.at 16 rfl) rfl rfl ?_
      refine sw_bipush (dX6_kindOf.at 17 rfl) (by decide) ?_
      refine sw_icmp_ne (tgt := 38) (dX6_kindOf.at 18 rfl) (by decide) hv.1 (by decide) (fun q => ?_) (fun q => ?_)
      · replace hv := hv.2.1 q
        refine sw_iconst (dX6_kindOf.at 21 rfl) ?_
        exact sw_iret (dX6_kindOf.at 22 rfl) rfl (Nat.le_refl _) (Nat.le_refl _) hv
      · replace hv := hv.2.2 q
        refine sw_iconst (dX6_kindOf.at 19 rfl) ?_
        refine sw_goto (tgt := 39) (dX6_kindOf.at 20 rfl) (by decide) ?_
        exact sw_iret (dX6_kindOf.at 22 rfl) rfl (Nat.le_refl _) (Nat.le_refl _) hv
    · replace hv := hv.2.2 q
      refine sw_iload_n (dX6_kindOf.at 11 rfl) rfl rfl ?_
      refine sw_bipush (dX6_kindOf.at 12 rfl) (by decide) ?_
      refine sw_icmp_gt (tgt := 28) (dX6_kindOf.at 13 rfl) (by decide) hv.1 (by decide) (fun q => ?_) (fun q => ?_)
      · replace hv := hv.2.1 q
        refine sw_iload_n (dX6_kindOf.at 16 rfl) rfl rfl ?_
        refine sw_bipush (dX6_kindOf.at 17 rfl) (by decide) ?_
        refine sw_icmp_ne (tgt := 38) (dX6_kindOf.at 18 rfl) (by decide) hv.1 (by decide) (fun q => ?_) (fun q => ?_)
        · replace hv := hv.2.1 q
          refine sw_iconst (dX6_kindOf.at 21 rfl) ?_
          exact sw_iret (dX6_kindOf.at 22 rfl) rfl (Nat.le_refl _) (Nat.le_refl _) hv
        · replace hv := hv.2.2 q
          refine sw_iconst (dX6_kindOf.at 19 rfl) ?_
          refine sw_goto (tgt := 39) (dX6_kindOf.at 20 rfl) (by decide) ?_
          exact sw_iret (dX6_kindOf.at 22 rfl) rfl (Nat.le_refl _) (Nat.le_refl _) hv
      · replace hv := hv.2.2 q
        refine sw_iconst (dX6_kindOf.at 14 rfl) ?_
        exact sw_iret (dX6_kindOf.at 15 rfl) rfl (Nat.le_refl _) (Nat.le_refl _) hv
  · replace hv := hv.2.2 q
    refine sw_iload_n (dX6_kindOf.at 3 rfl) rfl rfl ?_
    refine sw_bipush (dX6_kindOf.at 4 rfl) (by decide) ?_
    refine sw_icmp_gt (tgt := 14) (dX6_kindOf.at 5 rfl) (by decide) hv.1 (by decide) (fun q => ?_) (fun q => ?_)
    · replace hv := hv.2.1 q
      refine sw_iload_n (dX6_kindOf.at 8 rfl) rfl rfl ?_
      refine sw_bipush (dX6_kindOf.at 9 rfl) (by decide) ?_
      refine sw_icmp_lt (tgt := 28) (dX6_kindOf.at 10 rfl) (by decide) hv.1 (by decide) (fun q => ?_) (fun q => ?_)
      · replace hv := hv.2.1 q
        refine sw_iload_n (dX6_kindOf.at 16 rfl) rfl rfl ?_
        refine sw_bipush (dX6_kindOf.at 17 rfl) (by decide) ?_
        refine sw_icmp_ne (tgt := 38) (dX6_kindOf.at 18 rfl) (by decide) hv.1 (by decide) (fun q => ?_) (fun q => ?_)
        · replace hv := hv.2.1 q
          refine sw_iconst (dX6_kindOf.at 21 rfl) ?_
          exact sw_iret (dX6_kindOf.at 22 rfl) rfl (Nat.le_refl _) (Nat.le_refl _) hv
        · replace hv := hv.2.2 q
          refine sw_iconst (dX6_kindOf.at 19 rfl) ?_
          refine sw_goto (tgt := 39) (dX6_kindOf.at 20 rfl) (by decide) ?_
          exact sw_iret (dX6_kindOf.at 22 rfl) rfl (Nat.le_refl _) (Nat.le_refl _) hv
      · replace hv := hv.2.2 q
        refine sw_iload_n (dX6_kindOf.at 11 rfl) rfl rfl ?_
        refine sw_bipush (dX6_kindOf.at 12 rfl) (by decide) ?_
        refine sw_icmp_gt (tgt := 28) (dX6_kindOf.at 13 rfl) (by decide) hv.1 (by decide) (fun q => ?_) (fun q => ?_)
        · replace hv := hv.2.1 q
          refine sw_iload_n (dX6_kindOf.at 16 rfl) rfl rfl ?_
          refine sw_bipush (dX6_kindOf.at 17 rfl) (by decide) ?_
          refine sw_icmp_ne (tgt := 38) (dX6_kindOf.at 18 rfl) (by decide) hv.1 (by decide) (fun q => ?_) (fun q => ?_)
          · replace hv := hv.2.1 q
            refine sw_iconst (dX6_kindOf.at 21 rfl) ?_
            exact sw_iret (dX6_kindOf.at 22 rfl) rfl (Nat.le_refl _) (Nat.le_refl _) hv
          · replace hv := hv.2.2 q
            refine sw_iconst (dX6_kindOf.at 19 rfl) ?_
            refine sw_goto (tgt := 39) (dX6_kindOf.at 20 rfl) (by decide) ?_
            exact sw_iret (dX6_kindOf.at 22 rfl) rfl (Nat.le_refl _) (Nat.le_refl _) hv
        · replace hv := hv.2.2 q
          refine sw_iconst (dX6_kindOf.at 14 rfl) ?_
          exact sw_iret (dX6_kindOf.at 15 rfl) rfl (Nat.le_refl _) (Nat.le_refl _) hv
    · replace hv := hv.2.2 q
      refine sw_iconst (dX6_kindOf.at 6 rfl) ?_
      exact sw_iret (dX6_kindOf.at 7 rfl) rfl (Nat.le_refl _) (Nat.le_refl _) hv

set_option maxHeartbeats 2000000 in
theorem c_X6_kindOf {G : GG} {j nw nx gn : Nat} {g : Nat → Sh} {c : Nat → Nat → Int} {post : Option AV → AM → Prop} {z : Int} (p1 : -2147483648 ≤ z ∧ z < 2147483648) (K : post (some (vi (((kdI z : Nat) : Int)))) (S nw nx g, 78 + gn, c)) : SM G (j + 1) mX6_kindOf [vi (z)] (S nw nx g, 78 + gn, c) 0 0 post := by
  refine sm_of wX6_kindOf rfl (Nat.le_of_ble_eq_true rfl) ?_
  refine g_X6_kindOf_0  ?_
  have K1 : ∀ v : Int, v = ((kdI z : Nat) : Int) → post (some (vi v)) (S nw nx g, 78 + gn, c) := fun v h => h ▸ K
  refine ⟨?_, ⟨fun q => ⟨?_, ⟨fun q => ⟨?_, ⟨fun q => ?_, fun q => ?_⟩⟩, fun q => ⟨?_, ⟨fun q => ⟨?_, ⟨fun q => ?_, fun q => ?_⟩⟩, fun q => ?_⟩⟩⟩⟩, fun q => ⟨?_, ⟨fun q => ⟨?_, ⟨fun q => ⟨?_, ⟨fun q => ?_, fun q => ?_⟩⟩, fun q => ⟨?_, ⟨fun q => ⟨?_, ⟨fun q => ?_, fun q => ?_⟩⟩, fun q => ?_⟩⟩⟩⟩, fun q => ?_⟩⟩⟩⟩
  all_goals first | omega | (refine K1 _ ?_; unfold kdI; (repeat' split) <;> first | rfl | omega)

set_option maxHeartbeats 2000000 in
set_option maxRecDepth 20000 in
theorem g_X6_readNext_0 {G : GG} {j nw nx gn : Nat} {g : Nat → Sh} {c : Nat → Nat → Int} {post : Option AV → AM → Prop} {nb : Nat → Nat} {n : Nat} {tk : Nat} {tf : Nat} {tt : Nat} {rr : Nat} {ll : Nat} {ff : Nat} {pl : Int} {bd : Nat → Nat} (hS : c 1 1 = ((n : Nat) : Int)) (hn : n ≤ 300) (hB : ∀ i, nb i < 256) (hT : ∀ i, i < 300 → c 2 i = sb (nb i))  (hv : SW G (j + 1) mX6_readNext 8 [some (vr (1))] [] (S nw nx g, 78 + gn, (pm c tk tt tt rr ll ff pl bd)) B0 post) :
    SW G (j + 1) mX6_readNext 0 [some (vr (1))] [] (S nw nx g, 78 + gn, (pm c tk tf tt rr ll ff pl bd)) B0 post := by
  refine sw_aload_n (dX6_readNext_0.at 0 rfl) rfl rfl ?_
  refine sw_aload_n (dX6_readNext_0.at 1 rfl) rfl rfl ?_
  refine sw_getIE (w := ((tt : Nat) : Int)) (dX6_readNext_0.at 2 rfl) fp_X6_19 (S_lt 1 (by decide)) (S_1 nw nx g) rfl rfl ?_
  refine sw_putI (dX6_readNext_0.at 3 rfl) fp_X6_25 (S_lt 1 (by decide)) (S_1 nw nx g) rfl ?_
  refine SW.cg (M' := (S nw nx g, 78 + gn, (pm c tk tt tt rr ll ff pl bd))) (congrArg (fun m => (S nw nx g, 78 + gn, m)) pm_13) ?_
  exact hv

set_option maxHeartbeats 2000000 in
set_option maxRecDepth 20000 in
theorem g_X6_readNext_8 {G : GG} {j nw nx gn : Nat} {g : Nat → Sh} {c : Nat → Nat → Int} {post : Option AV → AM → Prop} {nb : Nat → Nat} {n : Nat} {tk : Nat} {tt : Nat} {rr : Nat} {ll : Nat} {ff : Nat} {pl : Int} {bd : Nat → Nat} {u : Nat} (hS : c 1 1 = ((n : Nat) : Int)) (hn : n ≤ 300) (hB : ∀ i, nb i < 256) (hT : ∀ i, i < 300 → c 2 i = sb (nb i))  (hv : (u < 2147483648) ∧ (n < 2147483648) ∧ (((n ≤ u) → SW G (j + 1) mX6_readNext 60 [some (vr (1))] [] (S nw nx g, 78 + gn, (pm c tk u tt rr ll ff pl bd)) B0 post) ∧ ((¬ (n ≤ u)) → (u < 300) ∧ ((-2147483648 ≤ sb (nb u) ∧ sb (nb u) < 2147483648) ∧ (((sb (nb u) = 32) → SW G (j + 1) mX6_readNext 8 [some (vr (1))] [] (S nw nx g, 78 + gn, (pm c tk (u + 1) tt rr ll ff pl bd)) B0 post) ∧ ((¬ (sb (nb u) = 32)) → (u < 300) ∧ ((-2147483648 ≤ sb (nb u) ∧ sb (nb u) < 2147483648) ∧ (((sb (nb u) ≠ 10) → SW G (j + 1) mX6_readNext 60 [some (vr (1))] [] (S nw nx g, 78 + gn, (pm c tk u tt rr ll ff pl bd)) B0 post) ∧ ((sb (nb u) = 10) → SW G (j + 1) mX6_readNext 8 [some (vr (1))] [] (S nw nx g, 78 + gn, (pm c tk (u + 1) tt rr ll ff pl bd)) B0 post))))))))) :
    SW G (j + 1) mX6_readNext 8 [some (vr (1))] [] (S nw nx g, 78 + gn, (pm c tk u tt rr ll ff pl bd)) B0 post := by
  refine sw_aload_n (dX6_readNext_0.at 4 rfl) rfl rfl ?_
  refine sw_getIE (w := ((u : Nat) : Int)) (dX6_readNext_0.at 5 rfl) fp_X6_25 (S_lt 1 (by decide)) (S_1 nw nx g) rfl rfl ?_
  refine sw_aload_n (dX6_readNext_0.at 6 rfl) rfl rfl ?_
  refine sw_getIE (w := ((n : Nat) : Int)) (dX6_readNext_0.at 7 rfl) fp_X6_15 (S_lt 1 (by decide)) (S_1 nw nx g) rfl hS ?_
  refine sw_icmpN_ge u n (tgt := 60) (dX6_readNext_0.at 8 rfl) (by decide) hv.1 hv.2.1 (fun q => ?_) (fun q => ?_)
  · replace hv := hv.2.2.1 q
    exact hv
  · replace hv := hv.2.2.2 q
    refine sw_aload_n (dX6_readNext_0.at 9 rfl) rfl rfl ?_
    refine sw_getR (dX6_readNext_0.at 10 rfl) fp_X6_9 (S_lt 1 (by decide)) (S_1 nw nx g) rfl rfl ?_
    refine sw_aload_n (dX6_readNext_0.at 11 rfl) rfl rfl ?_
    refine sw_getIE (w := ((u : Nat) : Int)) (dX6_readNext_0.at 12 rfl) fp_X6_25 (S_lt 1 (by decide)) (S_1 nw nx g) rfl rfl ?_
    refine sw_baldN u (w := sb (nb u)) (dX6_readNext_0.at 13 rfl) (S_lt 2 (by decide)) (S_2 nw nx g) (by decide) hv.1 (hT _ hv.1) ?_
    replace hv := hv.2
    refine sw_bipush (dX6_readNext_0.at 14 rfl) (by decide) ?_
    refine sw_icmp_eq (tgt := 47) (dX6_readNext_0.at 15 rfl) (by decide) hv.1 (by decide) (fun q => ?_) (fun q => ?_)
    · replace hv := hv.2.1 q
      refine sw_aload_n (dX6_readNext_0.at 23 rfl) rfl rfl ?_
      refine sw_dup (dX6_readNext_0.at 24 rfl) (fun _ h => by cases h) ?_
      refine sw_getIE (w := ((u : Nat) : Int)) (dX6_readNext_0.at 25 rfl) fp_X6_25 (S_lt 1 (by decide)) (S_1 nw nx g) rfl rfl ?_
      refine sw_iconst (dX6_readNext_0.at 26 rfl) ?_
      refine sw_iadd (dX6_readNext_0.at 27 rfl) ?_
      refine sw_topI (y := ((u + 1 : Nat) : Int)) (by first | rfl | (congr 1)) ?_
      refine sw_putI (dX6_readNext_0.at 28 rfl) fp_X6_25 (S_lt 1 (by decide)) (S_1 nw nx g) rfl ?_
      refine SW.cg (M' := (S nw nx g, 78 + gn, (pm c tk (u + 1) tt rr ll ff pl bd))) (congrArg (fun m => (S nw nx g, 78 + gn, m)) pm_13) ?_
      refine sw_goto (tgt := 8) (dX6_readNext_0.at 29 rfl) (by decide) ?_
      exact hv
    · replace hv := hv.2.2 q
      refine sw_aload_n (dX6_readNext_0.at 16 rfl) rfl rfl ?_
      refine sw_getR (dX6_readNext_0.at 17 rfl) fp_X6_9 (S_lt 1 (by decide)) (S_1 nw nx g) rfl rfl ?_
      refine sw_aload_n (dX6_readNext_0.at 18 rfl) rfl rfl ?_
      refine sw_getIE (w := ((u : Nat) : Int)) (dX6_readNext_0.at 19 rfl) fp_X6_25 (S_lt 1 (by decide)) (S_1 nw nx g) rfl rfl ?_
      refine sw_baldN u (w := sb (nb u)) (dX6_readNext_0.at 20 rfl) (S_lt 2 (by decide)) (S_2 nw nx g) (by decide) hv.1 (hT _ hv.1) ?_
      replace hv := hv.2
      refine sw_bipush (dX6_readNext_0.at 21 rfl) (by decide) ?_
      refine sw_icmp_ne (tgt := 60) (dX6_readNext_0.at 22 rfl) (by decide) hv.1 (by decide) (fun q => ?_) (fun q => ?_)
      · replace hv := hv.2.1 q
        exact hv
      · replace hv := hv.2.2 q
        refine sw_aload_n (dX6_readNext_0.at 23 rfl) rfl rfl ?_
        refine sw_dup (dX6_readNext_0.at 24 rfl) (fun _ h => by cases h) ?_
        refine sw_getIE (w := ((u : Nat) : Int)) (dX6_readNext_0.at 25 rfl) fp_X6_25 (S_lt 1 (by decide)) (S_1 nw nx g) rfl rfl ?_
        refine sw_iconst (dX6_readNext_0.at 26 rfl) ?_
        refine sw_iadd (dX6_readNext_0.at 27 rfl) ?_
        refine sw_topI (y := ((u + 1 : Nat) : Int)) (by first | rfl | (congr 1)) ?_
        refine sw_putI (dX6_readNext_0.at 28 rfl) fp_X6_25 (S_lt 1 (by decide)) (S_1 nw nx g) rfl ?_
        refine SW.cg (M' := (S nw nx g, 78 + gn, (pm c tk (u + 1) tt rr ll ff pl bd))) (congrArg (fun m => (S nw nx g, 78 + gn, m)) pm_13) ?_
        refine sw_goto (tgt := 8) (dX6_readNext_0.at 29 rfl) (by decide) ?_
        exact hv

set_option maxHeartbeats 2000000 in
set_option maxRecDepth 20000 in
theorem g_X6_readNext_60 {G : GG} {j nw nx gn : Nat} {g : Nat → Sh} {c : Nat → Nat → Int} {post : Option AV → AM → Prop} {nb : Nat → Nat} {n : Nat} {tk : Nat} {tt : Nat} {rr : Nat} {ll : Nat} {ff : Nat} {pl : Int} {bd : Nat → Nat} {u : Nat} (hS : c 1 1 = ((n : Nat) : Int)) (hn : n ≤ 300) (hB : ∀ i, nb i < 256) (hT : ∀ i, i < 300 → c 2 i = sb (nb i))  (hv : (u < 2147483648) ∧ (n < 2147483648) ∧ (((n ≤ u) → (u < 2147483648) ∧ (n < 2147483648) ∧ (((n ≤ u) → post none (S nw nx g, 78 + gn, (pm c 0 u n rr ll ff pl bd))) ∧ ((¬ (n ≤ u)) → post none (S nw nx g, 78 + gn, (pm c 0 u (u + 1) rr ll ff pl bd))))) ∧ ((¬ (n ≤ u)) → (u < 300) ∧ ((-2147483648 ≤ (sb (nb u)) ∧ (sb (nb u)) < 2147483648) ∧ ((u < 2147483648) ∧ (n < 2147483648) ∧ (((n ≤ u) → (kdI (sb (nb u)) < 2147483648) ∧ (((kdI (sb (nb u)) = 1) → SW G (j + 1) mX6_readNext 135 [some (vr (1))] [] (S nw nx g, 78 + gn, (pm c (kdI (sb (nb u))) u n rr ll ff pl bd)) B0 post) ∧ ((¬ (kdI (sb (nb u)) = 1)) → (kdI (sb (nb u)) < 2147483648) ∧ (((kdI (sb (nb u)) ≠ 2) → post none (S nw nx g, 78 + gn, (pm c (kdI (sb (nb u))) u n rr ll ff pl bd))) ∧ ((kdI (sb (nb u)) = 2) → SW G (j + 1) mX6_readNext 135 [some (vr (1))] [] (S nw nx g, 78 + gn, (pm c (kdI (sb (nb u))) u n rr ll ff pl bd)) B0 post))))) ∧ ((¬ (n ≤ u)) → (kdI (sb (nb u)) < 2147483648) ∧ (((kdI (sb (nb u)) = 1) → SW G (j + 1) mX6_readNext 135 [some (vr (1))] [] (S nw nx g, 78 + gn, (pm c (kdI (sb (nb u))) u (u + 1) rr ll ff pl bd)) B0 post) ∧ ((¬ (kdI (sb (nb u)) = 1)) → (kdI (sb (nb u)) < 2147483648) ∧ (((kdI (sb (nb u)) ≠ 2) → post none (S nw nx g, 78 + gn, (pm c (kdI (sb (nb u))) u (u + 1) rr ll ff pl bd))) ∧ ((kdI (sb (nb u)) = 2) → SW G (j + 1) mX6_readNext 135 [some (vr (1))] [] (S nw nx g, 78 + gn, (pm c (kdI (sb (nb u))) u (u + 1) rr ll ff pl bd)) B0 post))))))))))) :
    SW G (j + 1) mX6_readNext 60 [some (vr (1))] [] (S nw nx g, 78 + gn, (pm c tk u tt rr ll ff pl bd)) B0 post := by
  refine sw_aload_n (dX6_readNext_0.at 30 rfl) rfl rfl ?_
  refine sw_aload_n (dX6_readNext_0.at 31 rfl) rfl rfl ?_
  refine sw_getIE (w := ((u : Nat) : Int)) (dX6_readNext_0.at 32 rfl) fp_X6_25 (S_lt 1 (by decide)) (S_1 nw nx g) rfl rfl ?_
  refine sw_aload_n (dX6_readNext_0.at 33 rfl) rfl rfl ?_
  refine sw_getIE (w := ((n : Nat) : Int)) (dX6_readNext_0.at 34 rfl) fp_X6_15 (S_lt 1 (by decide)) (S_1 nw nx g) rfl hS ?_
  refine sw_icmpN_ge u n (tgt := 87) (dX6_readNext_0.at 35 rfl) (by decide) hv.1 hv.2.1 (fun q => ?_) (fun q => ?_)
  · replace hv := hv.2.2.1 q
    refine sw_iconst (dX6_readNext_0.at 43 rfl) ?_
    refine sw_putI (dX6_readNext_0.at 44 rfl) fp_X6_32 (S_lt 1 (by decide)) (S_1 nw nx g) rfl ?_
    refine SW.cg (M' := (S nw nx g, 78 + gn, (pm c 0 u tt rr ll ff pl bd))) (congrArg (fun m => (S nw nx g, 78 + gn, m)) pm_12) ?_
    refine sw_aload_n (dX6_readNext_0.at 45 rfl) rfl rfl ?_
    refine sw_aload_n (dX6_readNext_0.at 46 rfl) rfl rfl ?_
    refine sw_getIE (w := ((u : Nat) : Int)) (dX6_readNext_0.at 47 rfl) fp_X6_25 (S_lt 1 (by decide)) (S_1 nw nx g) rfl rfl ?_
    refine sw_aload_n (dX6_readNext_0.at 48 rfl) rfl rfl ?_
    refine sw_getIE (w := ((n : Nat) : Int)) (dX6_readNext_0.at 49 rfl) fp_X6_15 (S_lt 1 (by decide)) (S_1 nw nx g) rfl hS ?_
    refine sw_icmpN_ge u n (tgt := 112) (dX6_readNext_1.at 0 rfl) (by decide) hv.1 hv.2.1 (fun q => ?_) (fun q => ?_)
    · replace hv := hv.2.2.1 q
      refine sw_aload_n (dX6_readNext_1.at 6 rfl) rfl rfl ?_
      refine sw_getIE (w := ((n : Nat) : Int)) (dX6_readNext_1.at 7 rfl) fp_X6_15 (S_lt 1 (by decide)) (S_1 nw nx g) rfl hS ?_
      refine sw_putI (dX6_readNext_1.at 8 rfl) fp_X6_19 (S_lt 1 (by decide)) (S_1 nw nx g) rfl ?_
      refine SW.cg (M' := (S nw nx g, 78 + gn, (pm c 0 u n rr ll ff pl bd))) (congrArg (fun m => (S nw nx g, 78 + gn, m)) pm_14) ?_
      refine sw_aload_n (dX6_readNext_1.at 9 rfl) rfl rfl ?_
      refine sw_getIE (w := 0) (dX6_readNext_1.at 10 rfl) fp_X6_32 (S_lt 1 (by decide)) (S_1 nw nx g) rfl rfl ?_
      refine sw_iconst (dX6_readNext_1.at 11 rfl) ?_
      refine sw_icmp_eq (tgt := 135) (dX6_readNext_1.at 12 rfl) (by decide) (by decide) (by decide) (fun q => ?_) (fun q => ?_)
      · exact absurd q (by decide)
      · clear q
        refine sw_aload_n (dX6_readNext_1.at 13 rfl) rfl rfl ?_
        refine sw_getIE (w := 0) (dX6_readNext_1.at 14 rfl) fp_X6_32 (S_lt 1 (by decide)) (S_1 nw nx g) rfl rfl ?_
        refine sw_iconst (dX6_readNext_1.at 15 rfl) ?_
        refine sw_icmp_ne (tgt := 178) (dX6_readNext_1.at 16 rfl) (by decide) (by decide) (by decide) (fun q => ?_) (fun q => ?_)
        · clear q
          exact sw_vret (dX6_readNext_1.at 38 rfl) rfl (Nat.le_refl _) (Nat.le_refl _) hv
        · exact absurd q (by decide)
    · replace hv := hv.2.2.2 q
      refine sw_aload_n (dX6_readNext_1.at 1 rfl) rfl rfl ?_
      refine sw_getIE (w := ((u : Nat) : Int)) (dX6_readNext_1.at 2 rfl) fp_X6_25 (S_lt 1 (by decide)) (S_1 nw nx g) rfl rfl ?_
      refine sw_iconst (dX6_readNext_1.at 3 rfl) ?_
      refine sw_iadd (dX6_readNext_1.at 4 rfl) ?_
      refine sw_topI (y := ((u + 1 : Nat) : Int)) (by first | rfl | (congr 1)) ?_
      refine sw_goto (tgt := 116) (dX6_readNext_1.at 5 rfl) (by decide) ?_
      refine sw_putI (dX6_readNext_1.at 8 rfl) fp_X6_19 (S_lt 1 (by decide)) (S_1 nw nx g) rfl ?_
      refine SW.cg (M' := (S nw nx g, 78 + gn, (pm c 0 u (u + 1) rr ll ff pl bd))) (congrArg (fun m => (S nw nx g, 78 + gn, m)) pm_14) ?_
      refine sw_aload_n (dX6_readNext_1.at 9 rfl) rfl rfl ?_
      refine sw_getIE (w := 0) (dX6_readNext_1.at 10 rfl) fp_X6_32 (S_lt 1 (by decide)) (S_1 nw nx g) rfl rfl ?_
      refine sw_iconst (dX6_readNext_1.at 11 rfl) ?_
      refine sw_icmp_eq (tgt := 135) (dX6_readNext_1.at 12 rfl) (by decide) (by decide) (by decide) (fun q => ?_) (fun q => ?_)
      · exact absurd q (by decide)
      · clear q
        refine sw_aload_n (dX6_readNext_1.at 13 rfl) rfl rfl ?_
        refine sw_getIE (w := 0) (dX6_readNext_1.at 14 rfl) fp_X6_32 (S_lt 1 (by decide)) (S_1 nw nx g) rfl rfl ?_
        refine sw_iconst (dX6_readNext_1.at 15 rfl) ?_
        refine sw_icmp_ne (tgt := 178) (dX6_readNext_1.at 16 rfl) (by decide) (by decide) (by decide) (fun q => ?_) (fun q => ?_)
        · clear q
          exact sw_vret (dX6_readNext_1.at 38 rfl) rfl (Nat.le_refl _) (Nat.le_refl _) hv
        · exact absurd q (by decide)
  · replace hv := hv.2.2.2 q
    refine sw_aload_n (dX6_readNext_0.at 36 rfl) rfl rfl ?_
    refine sw_getR (dX6_readNext_0.at 37 rfl) fp_X6_9 (S_lt 1 (by decide)) (S_1 nw nx g) rfl rfl ?_
    refine sw_aload_n (dX6_readNext_0.at 38 rfl) rfl rfl ?_
    refine sw_getIE (w := ((u : Nat) : Int)) (dX6_readNext_0.at 39 rfl) fp_X6_25 (S_lt 1 (by decide)) (S_1 nw nx g) rfl rfl ?_
    refine sw_baldN u (w := sb (nb u)) (dX6_readNext_0.at 40 rfl) (S_lt 2 (by decide)) (S_2 nw nx g) (by decide) hv.1 (hT _ hv.1) ?_
    replace hv := hv.2
    refine sw_callS (post' := post) (B' := B0) (As := [vi (sb (nb u))]) (mc := 0) (ms := 0) (dX6_readNext_0.at 41 rfl) lk_X6_28 rfl rfl (Nat.le_of_ble_eq_true rfl) rfl (Nat.le_refl _) (Nat.le_refl _) ?_
    refine c_X6_kindOf (z := (sb (nb u))) (j := j + 0) hv.1 ?_
    replace hv := hv.2
    refine sw_goto (tgt := 88) (dX6_readNext_0.at 42 rfl) (by decide) ?_
    refine sw_putI (dX6_readNext_0.at 44 rfl) fp_X6_32 (S_lt 1 (by decide)) (S_1 nw nx g) rfl ?_
    refine SW.cg (M' := (S nw nx g, 78 + gn, (pm c (kdI (sb (nb u))) u tt rr ll ff pl bd))) (congrArg (fun m => (S nw nx g, 78 + gn, m)) pm_12) ?_
    refine sw_aload_n (dX6_readNext_0.at 45 rfl) rfl rfl ?_
    refine sw_aload_n (dX6_readNext_0.at 46 rfl) rfl rfl ?_
    refine sw_getIE (w := ((u : Nat) : Int)) (dX6_readNext_0.at 47 rfl) fp_X6_25 (S_lt 1 (by decide)) (S_1 nw nx g) rfl rfl ?_
    refine sw_aload_n (dX6_readNext_0.at 48 rfl) rfl rfl ?_
    refine sw_getIE (w := ((n : Nat) : Int)) (dX6_readNext_0.at 49 rfl) fp_X6_15 (S_lt 1 (by decide)) (S_1 nw nx g) rfl hS ?_
    refine sw_icmpN_ge u n (tgt := 112) (dX6_readNext_1.at 0 rfl) (by decide) hv.1 hv.2.1 (fun q => ?_) (fun q => ?_)
    · replace hv := hv.2.2.1 q
      refine sw_aload_n (dX6_readNext_1.at 6 rfl) rfl rfl ?_
      refine sw_getIE (w := ((n : Nat) : Int)) (dX6_readNext_1.at 7 rfl) fp_X6_15 (S_lt 1 (by decide)) (S_1 nw nx g) rfl hS ?_
      refine sw_putI (dX6_readNext_1.at 8 rfl) fp_X6_19 (S_lt 1 (by decide)) (S_1 nw nx g) rfl ?_
      refine SW.cg (M' := (S nw nx g, 78 + gn, (pm c (kdI (sb (nb u))) u n rr ll ff pl bd))) (congrArg (fun m => (S nw nx g, 78 + gn, m)) pm_14) ?_
      refine sw_aload_n (dX6_readNext_1.at 9 rfl) rfl rfl ?_
      refine sw_getIE (w := ((kdI (sb (nb u)) : Nat) : Int)) (dX6_readNext_1.at 10 rfl) fp_X6_32 (S_lt 1 (by decide)) (S_1 nw nx g) rfl rfl ?_
      refine sw_iconst (dX6_readNext_1.at 11 rfl) ?_
      refine sw_icmpN_eq (kdI (sb (nb u))) 1 (tgt := 135) (dX6_readNext_1.at 12 rfl) (by decide) hv.1 (by decide) (fun q => ?_) (fun q => ?_)
      · replace hv := hv.2.1 q
        exact hv
      · replace hv := hv.2.2 q
        refine sw_aload_n (dX6_readNext_1.at 13 rfl) rfl rfl ?_
        refine sw_getIE (w := ((kdI (sb (nb u)) : Nat) : Int)) (dX6_readNext_1.at 14 rfl) fp_X6_32 (S_lt 1 (by decide)) (S_1 nw nx g) rfl rfl ?_
        refine sw_iconst (dX6_readNext_1.at 15 rfl) ?_
        refine sw_icmpN_ne (kdI (sb (nb u))) 2 (tgt := 178) (dX6_readNext_1.at 16 rfl) (by decide) hv.1 (by decide) (fun q => ?_) (fun q => ?_)
        · replace hv := hv.2.1 q
          exact sw_vret (dX6_readNext_1.at 38 rfl) rfl (Nat.le_refl _) (Nat.le_refl _) hv
        · replace hv := hv.2.2 q
          exact hv
    · replace hv := hv.2.2.2 q
      refine sw_aload_n (dX6_readNext_1.at 1 rfl) rfl rfl ?_
      refine sw_getIE (w := ((u : Nat) : Int)) (dX6_readNext_1.at 2 rfl) fp_X6_25 (S_lt 1 (by decide)) (S_1 nw nx g) rfl rfl ?_
      refine sw_iconst (dX6_readNext_1.at 3 rfl) ?_
      refine sw_iadd (dX6_readNext_1.at 4 rfl) ?_
      refine sw_topI (y := ((u + 1 : Nat) : Int)) (by first | rfl | (congr 1)) ?_
      refine sw_goto (tgt := 116) (dX6_readNext_1.at 5 rfl) (by decide) ?_
      refine sw_putI (dX6_readNext_1.at 8 rfl) fp_X6_19 (S_lt 1 (by decide)) (S_1 nw nx g) rfl ?_
      refine SW.cg (M' := (S nw nx g, 78 + gn, (pm c (kdI (sb (nb u))) u (u + 1) rr ll ff pl bd))) (congrArg (fun m => (S nw nx g, 78 + gn, m)) pm_14) ?_
      refine sw_aload_n (dX6_readNext_1.at 9 rfl) rfl rfl ?_
      refine sw_getIE (w := ((kdI (sb (nb u)) : Nat) : Int)) (dX6_readNext_1.at 10 rfl) fp_X6_32 (S_lt 1 (by decide)) (S_1 nw nx g) rfl rfl ?_
      refine sw_iconst (dX6_readNext_1.at 11 rfl) ?_
      refine sw_icmpN_eq (kdI (sb (nb u))) 1 (tgt := 135) (dX6_readNext_1.at 12 rfl) (by decide) hv.1 (by decide) (fun q => ?_) (fun q => ?_)
      · replace hv := hv.2.1 q
        exact hv
      · replace hv := hv.2.2 q
        refine sw_aload_n (dX6_readNext_1.at 13 rfl) rfl rfl ?_
        refine sw_getIE (w := ((kdI (sb (nb u)) : Nat) : Int)) (dX6_readNext_1.at 14 rfl) fp_X6_32 (S_lt 1 (by decide)) (S_1 nw nx g) rfl rfl ?_
        refine sw_iconst (dX6_readNext_1.at 15 rfl) ?_
        refine sw_icmpN_ne (kdI (sb (nb u))) 2 (tgt := 178) (dX6_readNext_1.at 16 rfl) (by decide) hv.1 (by decide) (fun q => ?_) (fun q => ?_)
        · replace hv := hv.2.1 q
          exact sw_vret (dX6_readNext_1.at 38 rfl) rfl (Nat.le_refl _) (Nat.le_refl _) hv
        · replace hv := hv.2.2 q
          exact hv

set_option maxHeartbeats 2000000 in
set_option maxRecDepth 20000 in
theorem g_X6_readNext_135 {G : GG} {j nw nx gn : Nat} {g : Nat → Sh} {c : Nat → Nat → Int} {post : Option AV → AM → Prop} {nb : Nat → Nat} {n : Nat} {tk : Nat} {tf : Nat} {rr : Nat} {ll : Nat} {ff : Nat} {pl : Int} {bd : Nat → Nat} {u : Nat} (hS : c 1 1 = ((n : Nat) : Int)) (hn : n ≤ 300) (hB : ∀ i, nb i < 256) (hT : ∀ i, i < 300 → c 2 i = sb (nb i))  (hv : (u < 2147483648) ∧ (n < 2147483648) ∧ (((n ≤ u) → post none (S nw nx g, 78 + gn, (pm c tk tf u rr ll ff pl bd))) ∧ ((¬ (n ≤ u)) → (u < 300) ∧ ((-2147483648 ≤ (sb (nb u)) ∧ (sb (nb u)) < 2147483648) ∧ ((kdI (sb (nb u)) < 2147483648) ∧ (tk < 2147483648) ∧ (((kdI (sb (nb u)) ≠ tk) → post none (S nw nx g, 78 + gn, (pm c tk tf u rr ll ff pl bd))) ∧ ((kdI (sb (nb u)) = tk) → SW G (j + 1) mX6_readNext 135 [some (vr (1))] [] (S nw nx g, 78 + gn, (pm c tk tf (u + 1) rr ll ff pl bd)) B0 post))))))) :
    SW G (j + 1) mX6_readNext 135 [some (vr (1))] [] (S nw nx g, 78 + gn, (pm c tk tf u rr ll ff pl bd)) B0 post := by
  refine sw_aload_n (dX6_readNext_1.at 17 rfl) rfl rfl ?_
  refine sw_getIE (w := ((u : Nat) : Int)) (dX6_readNext_1.at 18 rfl) fp_X6_19 (S_lt 1 (by decide)) (S_1 nw nx g) rfl rfl ?_
  refine sw_aload_n (dX6_readNext_1.at 19 rfl) rfl rfl ?_
  refine sw_getIE (w := ((n : Nat) : Int)) (dX6_readNext_1.at 20 rfl) fp_X6_15 (S_lt 1 (by decide)) (S_1 nw nx g) rfl hS ?_
  refine sw_icmpN_ge u n (tgt := 178) (dX6_readNext_1.at 21 rfl) (by decide) hv.1 hv.2.1 (fun q => ?_) (fun q => ?_)
  · replace hv := hv.2.2.1 q
    exact sw_vret (dX6_readNext_1.at 38 rfl) rfl (Nat.le_refl _) (Nat.le_refl _) hv
  · replace hv := hv.2.2.2 q
    refine sw_aload_n (dX6_readNext_1.at 22 rfl) rfl rfl ?_
    refine sw_getR (dX6_readNext_1.at 23 rfl) fp_X6_9 (S_lt 1 (by decide)) (S_1 nw nx g) rfl rfl ?_
    refine sw_aload_n (dX6_readNext_1.at 24 rfl) rfl rfl ?_
    refine sw_getIE (w := ((u : Nat) : Int)) (dX6_readNext_1.at 25 rfl) fp_X6_19 (S_lt 1 (by decide)) (S_1 nw nx g) rfl rfl ?_
    refine sw_baldN u (w := sb (nb u)) (dX6_readNext_1.at 26 rfl) (S_lt 2 (by decide)) (S_2 nw nx g) (by decide) hv.1 (hT _ hv.1) ?_
    replace hv := hv.2
    refine sw_callS (post' := post) (B' := B0) (As := [vi (sb (nb u))]) (mc := 0) (ms := 0) (dX6_readNext_1.at 27 rfl) lk_X6_28 rfl rfl (Nat.le_of_ble_eq_true rfl) rfl (Nat.le_refl _) (Nat.le_refl _) ?_
    refine c_X6_kindOf (z := (sb (nb u))) (j := j + 0) hv.1 ?_
    replace hv := hv.2
    refine sw_aload_n (dX6_readNext_1.at 28 rfl) rfl rfl ?_
    refine sw_getIE (w := ((tk : Nat) : Int)) (dX6_readNext_1.at 29 rfl) fp_X6_32 (S_lt 1 (by decide)) (S_1 nw nx g) rfl rfl ?_
    refine sw_icmpN_ne (kdI (sb (nb u))) tk (tgt := 178) (dX6_readNext_1.at 30 rfl) (by decide) hv.1 hv.2.1 (fun q => ?_) (fun q => ?_)
    · replace hv := hv.2.2.1 q
      exact sw_vret (dX6_readNext_1.at 38 rfl) rfl (Nat.le_refl _) (Nat.le_refl _) hv
    · replace hv := hv.2.2.2 q
      refine sw_aload_n (dX6_readNext_1.at 31 rfl) rfl rfl ?_
      refine sw_dup (dX6_readNext_1.at 32 rfl) (fun _ h => by cases h) ?_
      refine sw_getIE (w := ((u : Nat) : Int)) (dX6_readNext_1.at 33 rfl) fp_X6_19 (S_lt 1 (by decide)) (S_1 nw nx g) rfl rfl ?_
      refine sw_iconst (dX6_readNext_1.at 34 rfl) ?_
      refine sw_iadd (dX6_readNext_1.at 35 rfl) ?_
      refine sw_topI (y := ((u + 1 : Nat) : Int)) (by first | rfl | (congr 1)) ?_
      refine sw_putI (dX6_readNext_1.at 36 rfl) fp_X6_19 (S_lt 1 (by decide)) (S_1 nw nx g) rfl ?_
      refine SW.cg (M' := (S nw nx g, 78 + gn, (pm c tk tf (u + 1) rr ll ff pl bd))) (congrArg (fun m => (S nw nx g, 78 + gn, m)) pm_14) ?_
      refine sw_goto (tgt := 135) (dX6_readNext_1.at 37 rfl) (by decide) ?_
      exact hv

set_option maxHeartbeats 4000000 in
theorem lp_X6_readNext_8 {G : GG} {j nw nx gn : Nat} {g : Nat → Sh} {c : Nat → Nat → Int} {post : Option AV → AM → Prop} {nb : Nat → Nat} {n : Nat} {tk : Nat} {tf : Nat} {tt : Nat} {rr : Nat} {ll : Nat} {ff : Nat} {pl : Int} {bd : Nat → Nat} (hS : c 1 1 = ((n : Nat) : Int)) (hn : n ≤ 300) (hB : ∀ i, nb i < 256) (hT : ∀ i, i < 300 → c 2 i = sb (nb i)) : ∀ k i : Nat, i + k = n → SW G (j + 1) mX6_readNext 60 [some (vr (1))] [] (S nw nx g, 78 + gn, (pm c tk (skB nb k i) tt rr ll ff pl bd)) B0 post → SW G (j + 1) mX6_readNext 8 [some (vr (1))] [] (S nw nx g, 78 + gn, (pm c tk i tt rr ll ff pl bd)) B0 post := by
  intro k
  induction k with
  | zero =>
    intro i hi K
    refine g_X6_readNext_8 hS hn hB hT ?_
    refine ⟨?_, ?_, ⟨fun q => ?_, fun q => ⟨?_, ⟨?_, ⟨fun q => ?_, fun q => ⟨?_, ⟨?_, ⟨fun q => ?_, fun q => ?_⟩⟩⟩⟩⟩⟩⟩⟩
    all_goals first | omega | exact K | (exfalso; omega)
  | succ k ih =>
    intro i hi K
    have e1 := sb_eq (hB i) 32 (by decide)
    have e2 := sb_eq (hB i) 10 (by decide)
    have e3 := sb_rng (hB i)
    simp only [skB] at K
    refine g_X6_readNext_8 hS hn hB hT ?_
    by_cases h : nb i = 32 ∨ nb i = 10
    · rw [if_pos h] at K
      refine ⟨?_, ?_, ⟨fun q => ?_, fun q => ⟨?_, ⟨?_, ⟨fun q => ?_, fun q => ⟨?_, ⟨?_, ⟨fun q => ?_, fun q => ?_⟩⟩⟩⟩⟩⟩⟩⟩
      all_goals first | omega | exact ih _ (by omega) K | (exfalso; omega)
    · rw [if_neg h] at K
      refine ⟨?_, ?_, ⟨fun q => ?_, fun q => ⟨?_, ⟨?_, ⟨fun q => ?_, fun q => ⟨?_, ⟨?_, ⟨fun q => ?_, fun q => ?_⟩⟩⟩⟩⟩⟩⟩⟩
      all_goals first | omega | exact K | (exfalso; omega)
set_option maxHeartbeats 4000000 in
theorem lp_X6_readNext_135 {G : GG} {j nw nx gn : Nat} {g : Nat → Sh} {c : Nat → Nat → Int} {post : Option AV → AM → Prop} {nb : Nat → Nat} {n : Nat} {tk : Nat} {tf : Nat} {tt : Nat} {rr : Nat} {ll : Nat} {ff : Nat} {pl : Int} {bd : Nat → Nat} (hS : c 1 1 = ((n : Nat) : Int)) (hn : n ≤ 300) (hB : ∀ i, nb i < 256) (hT : ∀ i, i < 300 → c 2 i = sb (nb i)) (htk : tk < 5): ∀ k i : Nat, i + k = n → post none (S nw nx g, 78 + gn, (pm c tk tf (rnE nb tk k i) rr ll ff pl bd)) → SW G (j + 1) mX6_readNext 135 [some (vr (1))] [] (S nw nx g, 78 + gn, (pm c tk tf i rr ll ff pl bd)) B0 post := by
  intro k
  induction k with
  | zero =>
    intro i hi K
    refine g_X6_readNext_135 hS hn hB hT ?_
    refine ⟨?_, ?_, ⟨fun q => ?_, fun q => ⟨?_, ⟨?_, ⟨?_, ?_, ⟨fun q => ?_, fun q => ?_⟩⟩⟩⟩⟩⟩
    all_goals first | omega | exact K | (exfalso; omega)
  | succ k ih =>
    intro i hi K
    have e1 := sb_kd (hB i)
    have e3 := sb_rng (hB i)
    have e4 := kd_le (nb i)
    simp only [rnE] at K
    refine g_X6_readNext_135 hS hn hB hT ?_
    by_cases h : kd (nb i) = tk
    · rw [if_pos h] at K
      refine ⟨?_, ?_, ⟨fun q => ?_, fun q => ⟨?_, ⟨?_, ⟨?_, ?_, ⟨fun q => ?_, fun q => ?_⟩⟩⟩⟩⟩⟩
      all_goals first | omega | exact ih _ (by omega) K | (exfalso; omega)
    · rw [if_neg h] at K
      refine ⟨?_, ?_, ⟨fun q => ?_, fun q => ⟨?_, ⟨?_, ⟨?_, ?_, ⟨fun q => ?_, fun q => ?_⟩⟩⟩⟩⟩⟩
      all_goals first | omega | exact K | (exfalso; omega)
set_option maxHeartbeats 4000000 in
theorem c_X6_readNext {G : GG} {j nw nx gn : Nat} {g : Nat → Sh} {c : Nat → Nat → Int} {post : Option AV → AM → Prop} {nb : Nat → Nat} {n : Nat} {tk : Nat} {tf : Nat} {tt : Nat} {rr : Nat} {ll : Nat} {ff : Nat} {pl : Int} {bd : Nat → Nat} (hS : c 1 1 = ((n : Nat) : Int)) (hn : n ≤ 300) (hB : ∀ i, nb i < 256) (hT : ∀ i, i < 300 → c 2 i = sb (nb i)) (p1 : tt ≤ n) (K : post none (S nw nx g, 78 + gn, (pm c (tkK nb n tt) (tkF nb n tt) (tkT nb n tt) rr ll ff pl bd))) : SM G (j + 2) mX6_readNext [vr (1)] (S nw nx g, 78 + gn, (pm c tk tf tt rr ll ff pl bd)) 0 0 post := by
  refine sm_of wX6_readNext rfl (Nat.le_of_ble_eq_true rfl) ?_
  refine g_X6_readNext_0 hS hn hB hT ?_
  refine lp_X6_readNext_8 (tf := tf) hS hn hB hT (n - tt) tt (by omega) ?_
  have e0 : skB nb (n - tt) tt = tkF nb n tt := rfl
  rw [e0]
  have h0 := tkF_le (nb := nb) p1
  have e1 := sb_kd (hB (tkF nb n tt))
  have e3 := sb_rng (hB (tkF nb n tt))
  have e4 := kd_le (nb (tkF nb n tt))
  refine g_X6_readNext_60 (u := tkF nb n tt) hS hn hB hT ?_
  by_cases h : tkF nb n tt < n
  · have k1 : tkK nb n tt = kd (nb (tkF nb n tt)) := if_pos h
    by_cases h2 : kd (nb (tkF nb n tt)) = 1 ∨ kd (nb (tkF nb n tt)) = 2
    · have k2 : tkT nb n tt = rnE nb (kd (nb (tkF nb n tt))) (n - (tkF nb n tt + 1)) (tkF nb n tt + 1) := by rw [tkT, if_pos h, if_pos h2]
      rw [k1, k2] at K
      rw [e1]
      refine ⟨?_, ?_, ⟨fun q => ⟨?_, ?_, ⟨fun q => ?_, fun q => ?_⟩⟩, fun q => ⟨?_, ⟨?_, ⟨?_, ?_, ⟨fun q => ⟨?_, ⟨fun q => ?_, fun q => ⟨?_, ⟨fun q => ?_, fun q => ?_⟩⟩⟩⟩, fun q => ⟨?_, ⟨fun q => ?_, fun q => ⟨?_, ⟨fun q => ?_, fun q => ?_⟩⟩⟩⟩⟩⟩⟩⟩⟩⟩
      all_goals first | omega | exact lp_X6_readNext_135 (tt := tt) hS hn hB hT (by omega) _ _ (by omega) K | (exfalso; omega)
    · have k2 : tkT nb n tt = tkF nb n tt + 1 := by rw [tkT, if_pos h, if_neg h2]
      rw [k1, k2] at K
      rw [e1]
      refine ⟨?_, ?_, ⟨fun q => ⟨?_, ?_, ⟨fun q => ?_, fun q => ?_⟩⟩, fun q => ⟨?_, ⟨?_, ⟨?_, ?_, ⟨fun q => ⟨?_, ⟨fun q => ?_, fun q => ⟨?_, ⟨fun q => ?_, fun q => ?_⟩⟩⟩⟩, fun q => ⟨?_, ⟨fun q => ?_, fun q => ⟨?_, ⟨fun q => ?_, fun q => ?_⟩⟩⟩⟩⟩⟩⟩⟩⟩⟩
      all_goals first | omega | exact K | (exfalso; omega)
  · have k1 : tkK nb n tt = 0 := if_neg h
    have k2 : tkT nb n tt = n := if_neg h
    rw [k1, k2] at K
    refine ⟨?_, ?_, ⟨fun q => ⟨?_, ?_, ⟨fun q => ?_, fun q => ?_⟩⟩, fun q => ⟨?_, ⟨?_, ⟨?_, ?_, ⟨fun q => ⟨?_, ⟨fun q => ?_, fun q => ⟨?_, ⟨fun q => ?_, fun q => ?_⟩⟩⟩⟩, fun q => ⟨?_, ⟨fun q => ?_, fun q => ⟨?_, ⟨fun q => ?_, fun q => ?_⟩⟩⟩⟩⟩⟩⟩⟩⟩⟩
    all_goals first | omega | exact K | (exfalso; omega)

set_option maxHeartbeats 2000000 in
set_option maxRecDepth 20000 in
theorem g_X6_readFirst_0 {G : GG} {j nw nx gn : Nat} {g : Nat → Sh} {c : Nat → Nat → Int} {post : Option AV → AM → Prop} {nb : Nat → Nat} {n : Nat} {tk : Nat} {tf : Nat} {tt : Nat} {rr : Nat} {ll : Nat} {ff : Nat} {pl : Int} {bd : Nat → Nat} (hS : c 1 1 = ((n : Nat) : Int)) (hn : n ≤ 300) (hB : ∀ i, nb i < 256) (hT : ∀ i, i < 300 → c 2 i = sb (nb i))  (hv : (0 ≤ n) ∧ (post none (S nw nx g, 78 + gn, (pm c (tkK nb n 0) (tkF nb n 0) (tkT nb n 0) rr ll ff pl bd)))) :
    SW G (j + 2) mX6_readFirst 0 [some (vr (1))] [] (S nw nx g, 78 + gn, (pm c tk tf tt rr ll ff pl bd)) B0 post := by
  refine sw_aload_n (dX6_readFirst.at 0 rfl) rfl rfl ?_
  refine sw_iconst (dX6_readFirst.at 1 rfl) ?_
  refine sw_putI (dX6_readFirst.at 2 rfl) fp_X6_19 (S_lt 1 (by decide)) (S_1 nw nx g) rfl ?_
  refine SW.cg (M' := (S nw nx g, 78 + gn, (pm c tk tf 0 rr ll ff pl bd))) (congrArg (fun m => (S nw nx g, 78 + gn, m)) pm_14) ?_
  refine sw_aload_n (dX6_readFirst.at 3 rfl) rfl rfl ?_
  refine sw_callV (B' := B0) (As := []) (mc := 0) (ms := 0) (dX6_readFirst.at 4 rfl) lk_X6_22 (S_lt 1 (by decide)) (S_1 nw nx g) rfl rfl (Nat.le_of_ble_eq_true rfl) rfl (Nat.le_refl _) (Nat.le_refl _) ?_
  refine c_X6_readNext (j := j + 0) hS hn hB hT hv.1 ?_
  replace hv := hv.2
  exact sw_vret (dX6_readFirst.at 5 rfl) rfl (Nat.le_refl _) (Nat.le_refl _) hv

theorem c_X6_readFirst {G : GG} {j nw nx gn : Nat} {g : Nat → Sh} {c : Nat → Nat → Int} {post : Option AV → AM → Prop} {nb : Nat → Nat} {n : Nat} {tk : Nat} {tf : Nat} {tt : Nat} {rr : Nat} {ll : Nat} {ff : Nat} {pl : Int} {bd : Nat → Nat} (hS : c 1 1 = ((n : Nat) : Int)) (hn : n ≤ 300) (hB : ∀ i, nb i < 256) (hT : ∀ i, i < 300 → c 2 i = sb (nb i)) (K : post none (S nw nx g, 78 + gn, (pm c (tkK nb n 0) (tkF nb n 0) (tkT nb n 0) rr ll ff pl bd))) : SM G (j + 3) mX6_readFirst [vr (1)] (S nw nx g, 78 + gn, (pm c tk tf tt rr ll ff pl bd)) 0 0 post := by
  refine sm_of wX6_readFirst rfl (Nat.le_of_ble_eq_true rfl) ?_
  refine g_X6_readFirst_0 hS hn hB hT ?_
  exact ⟨Nat.zero_le _, K⟩

