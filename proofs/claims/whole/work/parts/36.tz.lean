/-- the lowest bit -/
def lsbF (n : Nat) : Nat → Nat → Nat
  | 0, k => k
  | f + 1, k => if n.testBit k then k else lsbF n f (k + 1)
def lsb (n : Nat) : Nat := lsbF n 64 0
def isL (n k : Nat) : Prop := n.testBit k = true ∧ ∀ i, i < k → n.testBit i = false
theorem lsbF_is (n : Nat) : ∀ f k, (∀ i, i < k → n.testBit i = false) → (∃ i, i < k + f ∧ n.testBit i = true) → isL n (lsbF n f k) := by
  intro f
  induction f with
  | zero =>
    intro k h1 h2
    obtain ⟨i, hi, hb⟩ := h2
    rw [h1 i (by omega)] at hb
    exact absurd hb (by decide)
  | succ f ih =>
    intro k h1 h2
    rw [lsbF]
    split
    · rename_i h
      exact ⟨h, h1⟩
    · rename_i h
      refine ih (k + 1) (fun i hi => ?_) ?_
      · by_cases e : i = k
        · rw [e]; exact Bool.eq_false_iff.mpr h
        · exact h1 i (by omega)
      · obtain ⟨i, hi, hb⟩ := h2
        exact ⟨i, by omega, hb⟩
theorem lsb_is {n : Nat} (h0 : 0 < n) (h : n < 2 ^ 64) : isL n (lsb n) := by
  refine lsbF_is n 64 0 (fun i hi => absurd hi (Nat.not_lt_zero i)) ?_
  have hl := Nat.testBit_log2 (n := n) (by omega)
  exact ⟨n.log2, by rw [Nat.zero_add]; exact (Nat.log2_lt (by omega)).mpr h, hl⟩
theorem isL_un {n k l : Nat} (h : isL n k) (h2 : isL n l) : k = l := by
  rcases Nat.lt_trichotomy k l with q | q | q
  · have := h2.2 k q; rw [h.1] at this; exact absurd this (by decide)
  · exact q
  · have := h.2 l q; rw [h2.1] at this; exact absurd this (by decide)
theorem isL_lt {n k m : Nat} (h : isL n k) (hn : n < 2 ^ m) : k < m := by
  apply Classical.byContradiction
  intro q
  have := Nat.testBit_lt_two_pow (x := n) (i := k) (Nat.lt_of_lt_of_le hn (Nat.pow_le_pow_right (by decide) (by omega)))
  rw [h.1] at this
  exact absurd this (by decide)
theorem isL_form {n k : Nat} (h : isL n k) : n % 2 ^ (k + 1) = 2 ^ k := by
  apply Nat.eq_of_testBit_eq
  intro i
  rw [Nat.testBit_mod_two_pow]
  rcases Nat.lt_trichotomy i k with q | q | q
  · rw [h.2 i q, Nat.testBit_two_pow_of_ne (by omega)]; simp
  · rw [q, h.1, Nat.testBit_two_pow_self]; simp
  · rw [Nat.testBit_two_pow_of_ne (by omega)]
    have : ¬ i < k + 1 := by omega
    simp [this]
theorem isL_mask {n k : Nat} (h : isL n k) : andn (n - 1) n = 2 ^ k - 1 := by
  have hf := isL_form h
  have hp : 0 < 2 ^ k := Nat.two_pow_pos k
  have hd := Nat.div_add_mod n (2 ^ (k + 1))
  rw [hf] at hd
  have hm : n - 1 = 2 ^ (k + 1) * (n / 2 ^ (k + 1)) + (2 ^ k - 1) := by omega
  apply Nat.eq_of_testBit_eq
  intro i
  rw [andn_bit, Nat.testBit_two_pow_sub_one]
  rcases Nat.lt_trichotomy i k with q | q | q
  · rw [h.2 i q, hm, Nat.testBit_two_pow_mul_add _ (by rw [Nat.pow_succ]; omega), if_pos (by omega), Nat.testBit_two_pow_sub_one]
    simp [q]
  · have : ¬ i < k := by omega
    rw [q, h.1]
    simp
  · have q2 : ¬ i < k := by omega
    have e : n.testBit i = (n - 1).testBit i := by
      rw [hm, Nat.testBit_two_pow_mul_add _ (by rw [Nat.pow_succ]; omega), if_neg (by omega)]
      conv => lhs; rw [← hd]
      rw [Nat.testBit_two_pow_mul_add _ (by rw [Nat.pow_succ]; omega), if_neg (by omega)]
    rw [e]
    cases (n - 1).testBit i <;> simp [q2]
def i32 (z : Int) : Int := (Int32.ofInt z).toInt
theorem i32_of (z : Int) : Int32.ofInt (i32 z) = Int32.ofInt z := by rw [i32, i_of_toInt]
theorem i32_rng (z : Int) : -2147483648 ≤ i32 z ∧ i32 z < 2147483648 := ⟨Int32.le_toInt _, Int32.toInt_lt _⟩
theorem and32_rng (x y : Int) : -2147483648 ≤ and32 x y ∧ and32 x y < 2147483648 := ⟨Int32.le_toInt _, Int32.toInt_lt _⟩
theorem tz_mask {n k : Nat} (h : isL n k) (hk : k < 32) : and32 (xor32 (n : Int) (-1)) ((n : Int) - 1) = ((2 ^ k - 1 : Nat) : Int) := by
  have h0 : 0 < n := by
    rcases Nat.eq_zero_or_pos n with e | e
    · rw [e] at h; have := h.1; simp at this
    · exact e
  have e1 : (n : Int) - 1 = ((n - 1 : Nat) : Int) := by omega
  have hp : 2 ^ k ≤ 2 ^ 31 := Nat.pow_le_pow_right (by decide) (by omega)
  rw [and32, Int32.and_comm, xor32, i_of_toInt, e1, nI_of_int, nI_of_int, nI_andn, isL_mask h, ← nI_of_int]
  exact i_toInt (by omega)
theorem tz_mask32 {z : Int} {n k : Nat} (hz : Int32.ofInt z = Int32.ofInt (n : Int)) (h : isL n k) (hk : k < 32) : and32 (xor32 z (-1)) (z - 1) = ((2 ^ k - 1 : Nat) : Int) := by
  rw [← tz_mask h hk]
  have e : Int32.ofInt (z - 1) = Int32.ofInt ((n : Int) - 1) := by
    rw [Int32.ofInt_sub, Int32.ofInt_sub, hz]
  rw [and32, and32, xor32, xor32, e, hz]
set_option maxHeartbeats 2000000 in
set_option maxRecDepth 20000 in
theorem g_J6_numberOfTrailingZeros_0f7a4_0 {G : GG} {j nw nx gn : Nat} {g : Nat → Sh} {c : Nat → Nat → Int} {post : Option AV → AM → Prop} {z : Int}  (hv : (-2147483648 ≤ and32 (xor32 z (-1)) (z - 1) ∧ and32 (xor32 z (-1)) (z - 1) < 2147483648) ∧ (((0 < and32 (xor32 z (-1)) (z - 1)) → (-2147483648 ≤ and32 (xor32 z (-1)) (z - 1) ∧ and32 (xor32 z (-1)) (z - 1) < 2147483648) ∧ (((and32 (xor32 z (-1)) (z - 1) ≤ 65536) → (-2147483648 ≤ and32 (xor32 z (-1)) (z - 1) ∧ and32 (xor32 z (-1)) (z - 1) < 2147483648) ∧ (((and32 (xor32 z (-1)) (z - 1) ≤ 256) → (-2147483648 ≤ and32 (xor32 z (-1)) (z - 1) ∧ and32 (xor32 z (-1)) (z - 1) < 2147483648) ∧ (((and32 (xor32 z (-1)) (z - 1) ≤ 16) → (-2147483648 ≤ and32 (xor32 z (-1)) (z - 1) ∧ and32 (xor32 z (-1)) (z - 1) < 2147483648) ∧ (((and32 (xor32 z (-1)) (z - 1) ≤ 4) → post (some (vi (1 + (ushr32 (and32 (xor32 z (-1)) (z - 1)) 1)))) (S nw nx g, 78 + gn, c)) ∧ ((¬ (and32 (xor32 z (-1)) (z - 1) ≤ 4)) → post (some (vi (3 + (ushr32 (ushr32 (and32 (xor32 z (-1)) (z - 1)) 2) 1)))) (S nw nx g, 78 + gn, c)))) ∧ ((¬ (and32 (xor32 z (-1)) (z - 1) ≤ 16)) → (-2147483648 ≤ ushr32 (and32 (xor32 z (-1)) (z - 1)) 4 ∧ ushr32 (and32 (xor32 z (-1)) (z - 1)) 4 < 2147483648) ∧ (((ushr32 (and32 (xor32 z (-1)) (z - 1)) 4 ≤ 4) → post (some (vi (5 + (ushr32 (ushr32 (and32 (xor32 z (-1)) (z - 1)) 4) 1)))) (S nw nx g, 78 + gn, c)) ∧ ((¬ (ushr32 (and32 (xor32 z (-1)) (z - 1)) 4 ≤ 4)) → post (some (vi (7 + (ushr32 (ushr32 (ushr32 (and32 (xor32 z (-1)) (z - 1)) 4) 2) 1)))) (S nw nx g, 78 + gn, c)))))) ∧ ((¬ (and32 (xor32 z (-1)) (z - 1) ≤ 256)) → (-2147483648 ≤ ushr32 (and32 (xor32 z (-1)) (z - 1)) 8 ∧ ushr32 (and32 (xor32 z (-1)) (z - 1)) 8 < 2147483648) ∧ (((ushr32 (and32 (xor32 z (-1)) (z - 1)) 8 ≤ 16) → (-2147483648 ≤ ushr32 (and32 (xor32 z (-1)) (z - 1)) 8 ∧ ushr32 (and32 (xor32 z (-1)) (z - 1)) 8 < 2147483648) ∧ (((ushr32 (and32 (xor32 z (-1)) (z - 1)) 8 ≤ 4) → post (some (vi (9 + (ushr32 (ushr32 (and32 (xor32 z (-1)) (z - 1)) 8) 1)))) (S nw nx g, 78 + gn, c)) ∧ ((¬ (ushr32 (and32 (xor32 z (-1)) (z - 1)) 8 ≤ 4)) → post (some (vi (11 + (ushr32 (ushr32 (ushr32 (and32 (xor32 z (-1)) (z - 1)) 8) 2) 1)))) (S nw nx g, 78 + gn, c)))) ∧ ((¬ (ushr32 (and32 (xor32 z (-1)) (z - 1)) 8 ≤ 16)) → (-2147483648 ≤ ushr32 (ushr32 (and32 (xor32 z (-1)) (z - 1)) 8) 4 ∧ ushr32 (ushr32 (and32 (xor32 z (-1)) (z - 1)) 8) 4 < 2147483648) ∧ (((ushr32 (ushr32 (and32 (xor32 z (-1)) (z - 1)) 8) 4 ≤ 4) → post (some (vi (13 + (ushr32 (ushr32 (ushr32 (and32 (xor32 z (-1)) (z - 1)) 8) 4) 1)))) (S nw nx g, 78 + gn, c)) ∧ ((¬ (ushr32 (ushr32 (and32 (xor32 z (-1)) (z - 1)) 8) 4 ≤ 4)) → post (some (vi (15 + (ushr32 (ushr32 (ushr32 (ushr32 (and32 (xor32 z (-1)) (z - 1)) 8) 4) 2) 1)))) (S nw nx g, 78 + gn, c)))))))) ∧ ((¬ (and32 (xor32 z (-1)) (z - 1) ≤ 65536)) → (-2147483648 ≤ ushr32 (and32 (xor32 z (-1)) (z - 1)) 16 ∧ ushr32 (and32 (xor32 z (-1)) (z - 1)) 16 < 2147483648) ∧ (((ushr32 (and32 (xor32 z (-1)) (z - 1)) 16 ≤ 256) → (-2147483648 ≤ ushr32 (and32 (xor32 z (-1)) (z - 1)) 16 ∧ ushr32 (and32 (xor32 z (-1)) (z - 1)) 16 < 2147483648) ∧ (((ushr32 (and32 (xor32 z (-1)) (z - 1)) 16 ≤ 16) → (-2147483648 ≤ ushr32 (and32 (xor32 z (-1)) (z - 1)) 16 ∧ ushr32 (and32 (xor32 z (-1)) (z - 1)) 16 < 2147483648) ∧ (((ushr32 (and32 (xor32 z (-1)) (z - 1)) 16 ≤ 4) → post (some (vi (17 + (ushr32 (ushr32 (and32 (xor32 z (-1)) (z - 1)) 16) 1)))) (S nw nx g, 78 + gn, c)) ∧ ((¬ (ushr32 (and32 (xor32 z (-1)) (z - 1)) 16 ≤ 4)) → post (some (vi (19 + (ushr32 (ushr32 (ushr32 (and32 (xor32 z (-1)) (z - 1)) 16) 2) 1)))) (S nw nx g, 78 + gn, c)))) ∧ ((¬ (ushr32 (and32 (xor32 z (-1)) (z - 1)) 16 ≤ 16)) → (-2147483648 ≤ ushr32 (ushr32 (and32 (xor32 z (-1)) (z - 1)) 16) 4 ∧ ushr32 (ushr32 (and32 (xor32 z (-1)) (z - 1)) 16) 4 < 2147483648) ∧ (((ushr32 (ushr32 (and32 (xor32 z (-1)) (z - 1)) 16) 4 ≤ 4) → post (some (vi (21 + (ushr32 (ushr32 (ushr32 (and32 (xor32 z (-1)) (z - 1)) 16) 4) 1)))) (S nw nx g, 78 + gn, c)) ∧ ((¬ (ushr32 (ushr32 (and32 (xor32 z (-1)) (z - 1)) 16) 4 ≤ 4)) → post (some (vi (23 + (ushr32 (ushr32 (ushr32 (ushr32 (and32 (xor32 z (-1)) (z - 1)) 16) 4) 2) 1)))) (S nw nx g, 78 + gn, c)))))) ∧ ((¬ (ushr32 (and32 (xor32 z (-1)) (z - 1)) 16 ≤ 256)) → (-2147483648 ≤ ushr32 (ushr32 (and32 (xor32 z (-1)) (z - 1)) 16) 8 ∧ ushr32 (ushr32 (and32 (xor32 z (-1)) (z - 1)) 16) 8 < 2147483648) ∧ (((ushr32 (ushr32 (and32 (xor32 z (-1)) (z - 1)) 16) 8 ≤ 16) → (-2147483648 ≤ ushr32 (ushr32 (and32 (xor32 z (-1)) (z - 1)) 16) 8 ∧ ushr32 (ushr32 (and32 (xor32 z (-1)) (z - 1)) 16) 8 < 2147483648) ∧ (((ushr32 (ushr32 (and32 (xor32 z (-1)) (z - 1)) 16) 8 ≤ 4) → post (some (vi (25 + (ushr32 (ushr32 (ushr32 (and32 (xor32 z (-1)) (z - 1)) 16) 8) 1)))) (S nw nx g, 78 + gn, c)) ∧ ((¬ (ushr32 (ushr32 (and32 (xor32 z (-1)) (z - 1)) 16) 8 ≤ 4)) → post (some (vi (27 + (ushr32 (ushr32 (ushr32 (ushr32 (and32 (xor32 z (-1)) (z - 1)) 16) 8) 2) 1)))) (S nw nx g, 78 + gn, c)))) ∧ ((¬ (ushr32 (ushr32 (and32 (xor32 z (-1)) (z - 1)) 16) 8 ≤ 16)) → (-2147483648 ≤ ushr32 (ushr32 (ushr32 (and32 (xor32 z (-1)) (z - 1)) 16) 8) 4 ∧ ushr32 (ushr32 (ushr32 (and32 (xor32 z (-1)) (z - 1)) 16) 8) 4 < 2147483648) ∧ (((ushr32 (ushr32 (ushr32 (and32 (xor32 z (-1)) (z - 1)) 16) 8) 4 ≤ 4) → post (some (vi (29 + (ushr32 (ushr32 (ushr32 (ushr32 (and32 (xor32 z (-1)) (z - 1)) 16) 8) 4) 1)))) (S nw nx g, 78 + gn, c)) ∧ ((¬ (ushr32 (ushr32 (ushr32 (and32 (xor32 z (-1)) (z - 1)) 16) 8) 4 ≤ 4)) → post (some (vi (31 + (ushr32 (ushr32 (ushr32 (ushr32 (ushr32 (and32 (xor32 z (-1)) (z - 1)) 16) 8) 4) 2) 1)))) (S nw nx g, 78 + gn, c)))))))))) ∧ ((¬ (0 < and32 (xor32 z (-1)) (z - 1))) → post (some (vi (and32 (and32 (xor32 z (-1)) (z - 1)) 32))) (S nw nx g, 78 + gn, c)))) :
    SW G (j + 0) mJ6_numberOfTrailingZeros_0f7a4 0 [some (vi (z)), none] [] (S nw nx g, 78 + gn, c) B0 post := by
  refine sw_iload_n (dJ6_numberOfTrailingZeros_0f7a4.at 0 rfl) rfl rfl ?_
  refine sw_iconst (dJ6_numberOfTrailingZeros_0f7a4.at 1 rfl) ?_
  refine sw_ixor (dJ6_numberOfTrailingZeros_0f7a4.at 2 rfl) ?_
  refine sw_iload_n (dJ6_numberOfTrailingZeros_0f7a4.at 3 rfl) rfl rfl ?_
  refine sw_iconst (dJ6_numberOfTrailingZeros_0f7a4.at 4 rfl) ?_
  refine sw_isub (dJ6_numberOfTrailingZeros_0f7a4.at 5 rfl) ?_
  refine sw_iand (dJ6_numberOfTrailingZeros_0f7a4.at 6 rfl) ?_
  refine sw_istore_n (lo' := [some (vi (and32 (xor32 z (-1)) (z - 1))), none]) (dJ6_numberOfTrailingZeros_0f7a4.at 7 rfl) rfl (by decide) rfl ?_
  refine sw_iload_n (dJ6_numberOfTrailingZeros_0f7a4.at 8 rfl) rfl rfl ?_
  refine sw_if_gt (tgt := 17) (dJ6_numberOfTrailingZeros_0f7a4.at 9 rfl) (by decide) hv.1 (fun q => ?_) (fun q => ?_)
  · replace hv := hv.2.1 q
    refine sw_iconst (dJ6_numberOfTrailingZeros_0f7a4.at 14 rfl) ?_
    refine sw_istore_n (lo' := [some (vi (and32 (xor32 z (-1)) (z - 1))), some (vi (1))]) (dJ6_numberOfTrailingZeros_0f7a4.at 15 rfl) rfl (by decide) rfl ?_
    refine sw_iload_n (dJ6_numberOfTrailingZeros_0f7a4.at 16 rfl) rfl rfl ?_
    refine sw_ldcw (z := 65536) (dJ6_numberOfTrailingZeros_0f7a4.at 17 rfl) kc_J6_264 (by decide) ?_
    refine sw_icmp_le (tgt := 34) (dJ6_numberOfTrailingZeros_0f7a4.at 18 rfl) (by decide) hv.1 (by decide) (fun q => ?_) (fun q => ?_)
    · replace hv := hv.2.1 q
      refine sw_iload_n (dJ6_numberOfTrailingZeros_0f7a4.at 24 rfl) rfl rfl ?_
      refine sw_sipush (dJ6_numberOfTrailingZeros_0f7a4.at 25 rfl) (by decide) ?_
      refine sw_icmp_le (tgt := 49) (dJ6_numberOfTrailingZeros_0f7a4.at 26 rfl) (by decide) hv.1 (by decide) (fun q => ?_) (fun q => ?_)
      · replace hv := hv.2.1 q
        refine sw_iload_n (dJ6_numberOfTrailingZeros_0f7a4.at 32 rfl) rfl rfl ?_
        refine sw_bipush (dJ6_numberOfTrailingZeros_0f7a4.at 33 rfl) (by decide) ?_
        refine sw_icmp_le (tgt := 62) (dJ6_numberOfTrailingZeros_0f7a4.at 34 rfl) (by decide) hv.1 (by decide) (fun q => ?_) (fun q => ?_)
        · replace hv := hv.2.1 q
          refine sw_iload_n (dJ6_numberOfTrailingZeros_0f7a4.at 40 rfl) rfl rfl ?_
          refine sw_iconst (dJ6_numberOfTrailingZeros_0f7a4.at 41 rfl) ?_
          refine sw_icmp_le (tgt := 74) (dJ6_numberOfTrailingZeros_0f7a4.at 42 rfl) (by decide) hv.1 (by decide) (fun q => ?_) (fun q => ?_)
          · replace hv := hv.2.1 q
            refine sw_iload_n (dJ6_numberOfTrailingZeros_0f7a4.at 48 rfl) rfl rfl ?_
            refine sw_iload_n (dJ6_numberOfTrailingZeros_0f7a4.at 49 rfl) rfl rfl ?_
            refine sw_iconst (dJ6_numberOfTrailingZeros_0f7a4.at 50 rfl) ?_
            refine sw_iushr (dJ6_numberOfTrailingZeros_0f7a4.at 51 rfl) ?_
            refine sw_iadd (dJ6_numberOfTrailingZeros_0f7a4.at 52 rfl) ?_
            exact sw_iret (dJ6_numberOfTrailingZeros_0f7a4.at 53 rfl) rfl (Nat.le_refl _) (Nat.le_refl _) hv
          · replace hv := hv.2.2 q
            refine sw_iinc (lo' := [some (vi (and32 (xor32 z (-1)) (z - 1))), some (vi (3))]) (dJ6_numberOfTrailingZeros_0f7a4.at 43 rfl) rfl (by decide) rfl ?_
            refine sw_iload_n (dJ6_numberOfTrailingZeros_0f7a4.at 44 rfl) rfl rfl ?_
            refine sw_iconst (dJ6_numberOfTrailingZeros_0f7a4.at 45 rfl) ?_
            refine sw_iushr (dJ6_numberOfTrailingZeros_0f7a4.at 46 rfl) ?_
            refine sw_istore_n (lo' := [some (vi (ushr32 (and32 (xor32 z (-1)) (z - 1)) 2)), some (vi (3))]) (dJ6_numberOfTrailingZeros_0f7a4.at 47 rfl) rfl (by decide) rfl ?_
            refine sw_iload_n (dJ6_numberOfTrailingZeros_0f7a4.at 48 rfl) rfl rfl ?_
            refine sw_iload_n (dJ6_numberOfTrailingZeros_0f7a4.at 49 rfl) rfl rfl ?_
            refine sw_iconst (dJ6_numberOfTrailingZeros_0f7a4.at 50 rfl) ?_
            refine sw_iushr (dJ6_numberOfTrailingZeros_0f7a4.at 51 rfl) ?_
            refine sw_iadd (dJ6_numberOfTrailingZeros_0f7a4.at 52 rfl) ?_
            exact sw_iret (dJ6_numberOfTrailingZeros_0f7a4.at 53 rfl) rfl (Nat.le_refl _) (Nat.le_refl _) hv
        · replace hv := hv.2.2 q
          refine sw_iinc (lo' := [some (vi (and32 (xor32 z (-1)) (z - 1))), some (vi (5))]) (dJ6_numberOfTrailingZeros_0f7a4.at 35 rfl) rfl (by decide) rfl ?_
          refine sw_iload_n (dJ6_numberOfTrailingZeros_0f7a4.at 36 rfl) rfl rfl ?_
          refine sw_iconst (dJ6_numberOfTrailingZeros_0f7a4.at 37 rfl) ?_
          refine sw_iushr (dJ6_numberOfTrailingZeros_0f7a4.at 38 rfl) ?_
          refine sw_istore_n (lo' := [some (vi (ushr32 (and32 (xor32 z (-1)) (z - 1)) 4)), some (vi (5))]) (dJ6_numberOfTrailingZeros_0f7a4.at 39 rfl) rfl (by decide) rfl ?_
          refine sw_iload_n (dJ6_numberOfTrailingZeros_0f7a4.at 40 rfl) rfl rfl ?_
          refine sw_iconst (dJ6_numberOfTrailingZeros_0f7a4.at 41 rfl) ?_
          refine sw_icmp_le (tgt := 74) (dJ6_numberOfTrailingZeros_0f7a4.at 42 rfl) (by decide) hv.1 (by decide) (fun q => ?_) (fun q => ?_)
          · replace hv := hv.2.1 q
            refine sw_iload_n (dJ6_numberOfTrailingZeros_0f7a4.at 48 rfl) rfl rfl ?_
            refine sw_iload_n (dJ6_numberOfTrailingZeros_0f7a4.at 49 rfl) rfl rfl ?_
            refine sw_iconst (dJ6_numberOfTrailingZeros_0f7a4.at 50 rfl) ?_
            refine sw_iushr (dJ6_numberOfTrailingZeros_0f7a4.at 51 rfl) ?_
            refine sw_iadd (dJ6_numberOfTrailingZeros_0f7a4.at 52 rfl) ?_
            exact sw_iret (dJ6_numberOfTrailingZeros_0f7a4.at 53 rfl) rfl (Nat.le_refl _) (Nat.le_refl _) hv
          · replace hv := hv.2.2 q
            refine sw_iinc (lo' := [some (vi (ushr32 (and32 (xor32 z (-1)) (z - 1)) 4)), some (vi (7))]) (dJ6_numberOfTrailingZeros_0f7a4.at 43 rfl) rfl (by decide) rfl ?_
            refine sw_iload_n (dJ6_numberOfTrailingZeros_0f7a4.at 44 rfl) rfl rfl ?_
            refine sw_iconst (dJ6_numberOfTrailingZeros_0f7a4.at 45 rfl) ?_
            refine sw_iushr (dJ6_numberOfTrailingZeros_0f7a4.at 46 rfl) ?_
            refine sw_istore_n (lo' := [some (vi (ushr32 (ushr32 (and32 (xor32 z (-1)) (z - 1)) 4) 2)), some (vi (7))]) (dJ6_numberOfTrailingZeros_0f7a4.at 47 rfl) rfl (by decide) rfl ?_
            refine sw_iload_n (dJ6_numberOfTrailingZeros_0f7a4.at 48 rfl) rfl rfl ?_
            refine sw_iload_n (dJ6_numberOfTrailingZeros_0f7a4.at 49 rfl) rfl rfl ?_
            refine sw_iconst (dJ6_numberOfTrailingZeros_0f7a4.at 50 rfl) ?_
            refine sw_iushr (dJ6_numberOfTrailingZeros_0f7a4.at 51 rfl) ?_
            refine sw_iadd (dJ6_numberOfTrailingZeros_0f7a4.at 52 rfl) ?_
            exact sw_iret (dJ6_numberOfTrailingZeros_0f7a4.at 53 rfl) rfl (Nat.le_refl _) (Nat.le_refl _) hv
      · replace hv := hv.2.2 q
        refine sw_iinc (lo' := [some (vi (and32 (xor32 z (-1)) (z - 1))), some (vi (9))]) (dJ6_numberOfTrailingZeros_0f7a4.at 27 rfl) rfl (by decide) rfl ?_
        refine sw_iload_n (dJ6_numberOfTrailingZeros_0f7a4.at 28 rfl) rfl rfl ?_
        refine sw_bipush (dJ6_numberOfTrailingZeros_0f7a4.at 29 rfl) (by decide) ?_
        refine sw_iushr (dJ6_numberOfTrailingZeros_0f7a4.at 30 rfl) ?_
        refine sw_istore_n (lo' := [some (vi (ushr32 (and32 (xor32 z (-1)) (z - 1)) 8)), some (vi (9))]) (dJ6_numberOfTrailingZeros_0f7a4.at 31 rfl) rfl (by decide) rfl ?_
        refine sw_iload_n (dJ6_numberOfTrailingZeros_0f7a4.at 32 rfl) rfl rfl ?_
        refine sw_bipush (dJ6_numberOfTrailingZeros_0f7a4.at 33 rfl) (by decide) ?_
        refine sw_icmp_le (tgt := 62) (dJ6_numberOfTrailingZeros_0f7a4.at 34 rfl) (by decide) hv.1 (by decide) (fun q => ?_) (fun q => ?_)
        · replace hv := hv.2.1 q
          refine sw_iload_n (dJ6_numberOfTrailingZeros_0f7a4.at 40 rfl) rfl rfl ?_
          refine sw_iconst (dJ6_numberOfTrailingZeros_0f7a4.at 41 rfl) ?_
          refine sw_icmp_le (tgt := 74) (dJ6_numberOfTrailingZeros_0f7a4.at 42 rfl) (by decide) hv.1 (by decide) (fun q => ?_) (fun q => ?_)
          · replace hv := hv.2.1 q
            refine sw_iload_n (dJ6_numberOfTrailingZeros_0f7a4.at 48 rfl) rfl rfl ?_
            refine sw_iload_n (dJ6_numberOfTrailingZeros_0f7a4.at 49 rfl) rfl rfl ?_
            refine sw_iconst (dJ6_numberOfTrailingZeros_0f7a4.at 50 rfl) ?_
            refine sw_iushr (dJ6_numberOfTrailingZeros_0f7a4.at 51 rfl) ?_
            refine sw_iadd (dJ6_numberOfTrailingZeros_0f7a4.at 52 rfl) ?_
            exact sw_iret (dJ6_numberOfTrailingZeros_0f7a4.at 53 rfl) rfl (Nat.le_refl _) (Nat.le_refl _) hv
          · replace hv := hv.2.2 q
            refine sw_iinc (lo' := [some (vi (ushr32 (and32 (xor32 z (-1)) (z - 1)) 8)), some (vi (11))]) (dJ6_numberOfTrailingZeros_0f7a4.at 43 rfl) rfl (by decide) rfl ?_
            refine sw_iload_n (dJ6_numberOfTrailingZeros_0f7a4.at 44 rfl) rfl rfl ?_
            refine sw_iconst (dJ6_numberOfTrailingZeros_0f7a4.at 45 rfl) ?_
            refine sw_iushr (dJ6_numberOfTrailingZeros_0f7a4.at 46 rfl) ?_
            refine sw_istore_n (lo' := [some (vi (ushr32 (ushr32 (and32 (xor32 z (-1)) (z - 1)) 8) 2)), some (vi (11))]) (dJ6_numberOfTrailingZeros_0f7a4.at 47 rfl) rfl (by decide) rfl ?_
            refine sw_iload_n (dJ6_numberOfTrailingZeros_0f7a4.at 48 rfl) rfl rfl ?_
            refine sw_iload_n (dJ6_numberOfTrailingZeros_0f7a4.at 49 rfl) rfl rfl ?_
            refine sw_iconst (dJ6_numberOfTrailingZeros_0f7a4.at 50 rfl) ?_
            refine sw_iushr (dJ6_numberOfTrailingZeros_0f7a4.at 51 rfl) ?_
            refine sw_iadd (dJ6_numberOfTrailingZeros_0f7a4.at 52 rfl) ?_
            exact sw_iret (dJ6_numberOfTrailingZeros_0f7a4.at 53 rfl) rfl (Nat.le_refl _) (Nat.le_refl _) hv
        · replace hv := hv.2.2 q
          refine sw_iinc (lo' := [some (vi (ushr32 (and32 (xor32 z (-1)) (z - 1)) 8)), some (vi (13))]) (dJ6_numberOfTrailingZeros_0f7a4.at 35 rfl) rfl (by decide) rfl ?_
          refine sw_iload_n (dJ6_numberOfTrailingZeros_0f7a4.at 36 rfl) rfl rfl ?_
          refine sw_iconst (dJ6_numberOfTrailingZeros_0f7a4.at 37 rfl) ?_
          refine sw_iushr (dJ6_numberOfTrailingZeros_0f7a4.at 38 rfl) ?_
          refine sw_istore_n (lo' := [some (vi (ushr32 (ushr32 (and32 (xor32 z (-1)) (z - 1)) 8) 4)), some (vi (13))]) (dJ6_numberOfTrailingZeros_0f7a4.at 39 rfl) rfl (by decide) rfl ?_
          refine sw_iload_n (dJ6_numberOfTrailingZeros_0f7a4.at 40 rfl) rfl rfl ?_
          refine sw_iconst (dJ6_numberOfTrailingZeros_0f7a4.at 41 rfl) ?_
          refine sw_icmp_le (tgt := 74) (dJ6_numberOfTrailingZeros_0f7a4.at 42 rfl) (by decide) hv.1 (by decide) (fun q => ?_) (fun q => ?_)
          · replace hv := hv.2.1 q
            refine sw_iload_n (dJ6_numberOfTrailingZeros_0f7a4.at 48 rfl) rfl rfl ?_
            refine sw_iload_n (dJ6_numberOfTrailingZeros_0f7a4.at 49 rfl) rfl rfl ?_
            refine sw_iconst (dJ6_numberOfTrailingZeros_0f7a4.at 50 rfl) ?_
            refine sw_iushr (dJ6_numberOfTrailingZeros_0f7a4.at 51 rfl) ?_
            refine sw_iadd (dJ6_numberOfTrailingZeros_0f7a4.at 52 rfl) ?_
            exact sw_iret (dJ6_numberOfTrailingZeros_0f7a4.at 53 rfl) rfl (Nat.le_refl _) (Nat.le_refl _) hv
          · replace hv := hv.2.2 q
            refine sw_iinc (lo' := [some (vi (ushr32 (ushr32 (and32 (xor32 z (-1)) (z - 1)) 8) 4)), some (vi (15))]) (dJ6_numberOfTrailingZeros_0f7a4.at 43 rfl) rfl (by decide) rfl ?_
            refine sw_iload_n (dJ6_numberOfTrailingZeros_0f7a4.at 44 rfl) rfl rfl ?_
            refine sw_iconst (dJ6_numberOfTrailingZeros_0f7a4.at 45 rfl) ?_
            refine sw_iushr (dJ6_numberOfTrailingZeros_0f7a4.at 46 rfl) ?_
            refine sw_istore_n (lo' := [some (vi (ushr32 (ushr32 (ushr32 (and32 (xor32 z (-1)) (z - 1)) 8) 4) 2)), some (vi (15))]) (dJ6_numberOfTrailingZeros_0f7a4.at 47 rfl) rfl (by decide) rfl ?_
            refine sw_iload_n (dJ6_numberOfTrailingZeros_0f7a4.at 48 rfl) rfl rfl ?_
            refine sw_iload_n (dJ6_numberOfTrailingZeros_0f7a4.at 49 rfl) rfl rfl ?_
            refine sw_iconst (dJ6_numberOfTrailingZeros_0f7a4.at 50 rfl) ?_
            refine sw_iushr (dJ6_numberOfTrailingZeros_0f7a4.at 51 rfl) ?_
            refine sw_iadd (dJ6_numberOfTrailingZeros_0f7a4.at 52 rfl) ?_
            exact sw_iret (dJ6_numberOfTrailingZeros_0f7a4.at 53 rfl) rfl (Nat.le_refl _) (Nat.le_refl _) hv
    · replace hv := hv.2.2 q
      refine sw_iinc (lo' := [some (vi (and32 (xor32 z (-1)) (z - 1))), some (vi (17))]) (dJ6_numberOfTrailingZeros_0f7a4.at 19 rfl) rfl (by decide) rfl ?_
      refine sw_iload_n (dJ6_numberOfTrailingZeros_0f7a4.at 20 rfl) rfl rfl ?_
      refine sw_bipush (dJ6_numberOfTrailingZeros_0f7a4.at 21 rfl) (by decide) ?_
      refine sw_iushr (dJ6_numberOfTrailingZeros_0f7a4.at 22 rfl) ?_
      refine sw_istore_n (lo' := [some (vi (ushr32 (and32 (xor32 z (-1)) (z - 1)) 16)), some (vi (17))]) (dJ6_numberOfTrailingZeros_0f7a4.at 23 rfl) rfl (by decide) rfl ?_
      refine sw_iload_n (dJ6_numberOfTrailingZeros_0f7a4.at 24 rfl) rfl rfl ?_
      refine sw_sipush (dJ6_numberOfTrailingZeros_0f7a4.at 25 rfl) (by decide) ?_
      refine sw_icmp_le (tgt := 49) (dJ6_numberOfTrailingZeros_0f7a4.at 26 rfl) (by decide) hv.1 (by decide) (fun q => ?_) (fun q => ?_)
      · replace hv := hv.2.1 q
        refine sw_iload_n (dJ6_numberOfTrailingZeros_0f7a4.at 32 rfl) rfl rfl ?_
        refine sw_bipush (dJ6_numberOfTrailingZeros_0f7a4.at 33 rfl) (by decide) ?_
        refine sw_icmp_le (tgt := 62) (dJ6_numberOfTrailingZeros_0f7a4.at 34 rfl) (by decide) hv.1 (by decide) (fun q => ?_) (fun q => ?_)
        · replace hv := hv.2.1 q
          refine sw_iload_n (dJ6_numberOfTrailingZeros_0f7a4.at 40 rfl) rfl rfl ?_
          refine sw_iconst (dJ6_numberOfTrailingZeros_0f7a4.at 41 rfl) ?_
          refine sw_icmp_le (tgt := 74) (dJ6_numberOfTrailingZeros_0f7a4.at 42 rfl) (by decide) hv.1 (by decide) (fun q => ?_) (fun q => ?_)
          · replace hv := hv.2.1 q
            refine sw_iload_n (dJ6_numberOfTrailingZeros_0f7a4.at 48 rfl) rfl rfl ?_
            refine sw_iload_n (dJ6_numberOfTrailingZeros_0f7a4.at 49 rfl) rfl rfl ?_
            refine sw_iconst (dJ6_numberOfTrailingZeros_0f7a4.at 50 rfl) ?_
            refine sw_iushr (dJ6_numberOfTrailingZeros_0f7a4.at 51 rfl) ?_
            refine sw_iadd (dJ6_numberOfTrailingZeros_0f7a4.at 52 rfl) ?_
            exact sw_iret (dJ6_numberOfTrailingZeros_0f7a4.at 53 rfl) rfl (Nat.le_refl _) (Nat.le_refl _) hv
          · replace hv := hv.2.2 q
            refine sw_iinc (lo' := [some (vi (ushr32 (and32 (xor32 z (-1)) (z - 1)) 16)), some (vi (19))]) (dJ6_numberOfTrailingZeros_0f7a4.at 43 rfl) rfl (by decide) rfl ?_
            refine sw_iload_n (dJ6_numberOfTrailingZeros_0f7a4.at 44 rfl) rfl rfl ?_
            refine sw_iconst (dJ6_numberOfTrailingZeros_0f7a4.at 45 rfl) ?_
            refine sw_iushr (dJ6_numberOfTrailingZeros_0f7a4.at 46 rfl) ?_
            refine sw_istore_n (lo' := [some (vi (ushr32 (ushr32 (and32 (xor32 z (-1)) (z - 1)) 16) 2)), some (vi (19))]) (dJ6_numberOfTrailingZeros_0f7a4.at 47 rfl) rfl (by decide) rfl ?_
            refine sw_iload_n (dJ6_numberOfTrailingZeros_0f7a4.at 48 rfl) rfl rfl ?_
            refine sw_iload_n (dJ6_numberOfTrailingZeros_0f7a4.at 49 rfl) rfl rfl ?_
            refine sw_iconst (dJ6_numberOfTrailingZeros_0f7a4.at 50 rfl) ?_
            refine sw_iushr (dJ6_numberOfTrailingZeros_0f7a4.at 51 rfl) ?_
            refine sw_iadd (dJ6_numberOfTrailingZeros_0f7a4.at 52 rfl) ?_
            exact sw_iret (dJ6_numberOfTrailingZeros_0f7a4.at 53 rfl) rfl (Nat.le_refl _) (Nat.le_refl _) hv
        · replace hv := hv.2.2 q
          refine sw_iinc (lo' := [some (vi (ushr32 (and32 (xor32 z (-1)) (z - 1)) 16)), some (vi (21))]) (dJ6_numberOfTrailingZeros_0f7a4.at 35 rfl) rfl (by decide) rfl ?_
          refine sw_iload_n (dJ6_numberOfTrailingZeros_0f7a4.at 36 rfl) rfl rfl ?_
          refine sw_iconst (dJ6_numberOfTrailingZeros_0f7a4.at 37 rfl) ?_
          refine sw_iushr (dJ6_numberOfTrailingZeros_0f7a4.at 38 rfl) ?_
          refine sw_istore_n (lo' := [some (vi (ushr32 (ushr32 (and32 (xor32 z (-1)) (z - 1)) 16) 4)), some (vi (21))]) (dJ6_numberOfTrailingZeros_0f7a4.at 39 rfl) rfl (by decide) rfl ?_
          refine sw_iload_n (dJ6_numberOfTrailingZeros_0f7a4.at 40 rfl) rfl rfl ?_
          refine sw_iconst (dJ6_numberOfTrailingZeros_0f7a4.at 41 rfl) ?_
          refine sw_icmp_le (tgt := 74) (dJ6_numberOfTrailingZeros_0f7a4.at 42 rfl) (by decide) hv.1 (by decide) (fun q => ?_) (fun q => ?_)
          · replace hv := hv.2.1 q
            refine sw_iload_n (dJ6_numberOfTrailingZeros_0f7a4.at 48 rfl) rfl rfl ?_
            refine sw_iload_n (dJ6_numberOfTrailingZeros_0f7a4.at 49 rfl) rfl rfl ?_
            refine sw_iconst (dJ6_numberOfTrailingZeros_0f7a4.at 50 rfl) ?_
            refine sw_iushr (dJ6_numberOfTrailingZeros_0f7a4.at 51 rfl) ?_
            refine sw_iadd (dJ6_numberOfTrailingZeros_0f7a4.at 52 rfl) ?_
            exact sw_iret (dJ6_numberOfTrailingZeros_0f7a4.at 53 rfl) rfl (Nat.le_refl _) (Nat.le_refl _) hv
          · replace hv := hv.2.2 q
            refine sw_iinc (lo' := [some (vi (ushr32 (ushr32 (and32 (xor32 z (-1)) (z - 1)) 16) 4)), some (vi (23))]) (dJ6_numberOfTrailingZeros_0f7a4.at 43 rfl) rfl (by decide) rfl ?_
            refine sw_iload_n (dJ6_numberOfTrailingZeros_0f7a4.at 44 rfl) rfl rfl ?_
            refine sw_iconst (dJ6_numberOfTrailingZeros_0f7a4.at 45 rfl) ?_
            refine sw_iushr (dJ6_numberOfTrailingZeros_0f7a4.at 46 rfl) ?_
            refine sw_istore_n (lo' := [some (vi (ushr32 (ushr32 (ushr32 (and32 (xor32 z (-1)) (z - 1)) 16) 4) 2)), some (vi (23))]) (dJ6_numberOfTrailingZeros_0f7a4.at 47 rfl) rfl (by decide) rfl ?_
            refine sw_iload_n (dJ6_numberOfTrailingZeros_0f7a4.at 48 rfl) rfl rfl ?_
            refine sw_iload_n (dJ6_numberOfTrailingZeros_0f7a4.at 49 rfl) rfl rfl ?_
            refine sw_iconst (dJ6_numberOfTrailingZeros_0f7a4.at 50 rfl) ?_
            refine sw_iushr (dJ6_numberOfTrailingZeros_0f7a4.at 51 rfl) ?_
            refine sw_iadd (dJ6_numberOfTrailingZeros_0f7a4.at 52 rfl) ?_
            exact sw_iret (dJ6_numberOfTrailingZeros_0f7a4.at 53 rfl) rfl (Nat.le_refl _) (Nat.le_refl _) hv
      · replace hv := hv.2.2 q
        refine sw_iinc (lo' := [some (vi (ushr32 (and32 (xor32 z (-1)) (z - 1)) 16)), some (vi (25))]) (dJ6_numberOfTrailingZeros_0f7a4.at 27 rfl) rfl (by decide) rfl ?_
        refine sw_iload_n (dJ6_numberOfTrailingZeros_0f7a4.at 28 rfl) rfl rfl ?_
        refine sw_bipush (dJ6_numberOfTrailingZeros_0f7a4.at 29 rfl) (by decide) ?_
        refine sw_iushr (dJ6_numberOfTrailingZeros_0f7a4.at 30 rfl) ?_
        refine sw_istore_n (lo' := [some (vi (ushr32 (ushr32 (and32 (xor32 z (-1)) (z - 1)) 16) 8)), some (vi (25))]) (dJ6_numberOfTrailingZeros_0f7a4.at 31 rfl) rfl (by decide) rfl ?_
        refine sw_iload_n (dJ6_numberOfTrailingZeros_0f7a4.at 32 rfl) rfl rfl ?_
        refine sw_bipush (dJ6_numberOfTrailingZeros_0f7a4.at 33 rfl) (by decide) ?_
        refine sw_icmp_le (tgt := 62) (dJ6_numberOfTrailingZeros_0f7a4.at 34 rfl) (by decide) hv.1 (by decide) (fun q => ?_) (fun q => ?_)
        · replace hv := hv.2.1 q
          refine sw_iload_n (dJ6_numberOfTrailingZeros_0f7a4.at 40 rfl) rfl rfl ?_
          refine sw_iconst (dJ6_numberOfTrailingZeros_0f7a4.at 41 rfl) ?_
          refine sw_icmp_le (tgt := 74) (dJ6_numberOfTrailingZeros_0f7a4.at 42 rfl) (by decide) hv.1 (by decide) (fun q => ?_) (fun q => ?_)
          · replace hv := hv.2.1 q
            refine sw_iload_n (dJ6_numberOfTrailingZeros_0f7a4.at 48 rfl) rfl rfl ?_
            refine sw_iload_n (dJ6_numberOfTrailingZeros_0f7a4.at 49 rfl) rfl rfl ?_
            refine sw_iconst (dJ6_numberOfTrailingZeros_0f7a4.at 50 rfl) ?_
            refine sw_iushr (dJ6_numberOfTrailingZeros_0f7a4.at 51 rfl) ?_
            refine sw_iadd (dJ6_numberOfTrailingZeros_0f7a4.at 52 rfl) ?_
            exact sw_iret (dJ6_numberOfTrailingZeros_0f7a4.at 53 rfl) rfl (Nat.le_refl _) (Nat.le_refl _) hv
          · replace hv := hv.2.2 q
            refine sw_iinc (lo' := [some (vi (ushr32 (ushr32 (and32 (xor32 z (-1)) (z - 1)) 16) 8)), some (vi (27))]) (dJ6_numberOfTrailingZeros_0f7a4.at 43 rfl) rfl (by decide) rfl ?_
            refine sw_iload_n (dJ6_numberOfTrailingZeros_0f7a4.at 44 rfl) rfl rfl ?_
            refine sw_iconst (dJ6_numberOfTrailingZeros_0f7a4.at 45 rfl) ?_
            refine sw_iushr (dJ6_numberOfTrailingZeros_0f7a4.at 46 rfl) ?_
            refine sw_istore_n (lo' := [some (vi (ushr32 (ushr32 (ushr32 (and32 (xor32 z (-1)) (z - 1)) 16) 8) 2)), some (vi (27))]) (dJ6_numberOfTrailingZeros_0f7a4.at 47 rfl) rfl (by decide) rfl ?_
            refine sw_iload_n (dJ6_numberOfTrailingZeros_0f7a4.at 48 rfl) rfl rfl ?_
            refine sw_iload_n (dJ6_numberOfTrailingZeros_0f7a4.at 49 rfl) rfl rfl ?_
            refine sw_iconst (dJ6_numberOfTrailingZeros_0f7a4.at 50 rfl) ?_
            refine sw_iushr (dJ6_numberOfTrailingZeros_0f7a4.at 51 rfl) ?_
            refine sw_iadd (dJ6_numberOfTrailingZeros_0f7a4.at 52 rfl) ?_
            exact sw_iret (dJ6_numberOfTrailingZeros_0f7a4.at 53 rfl) rfl (Nat.le_refl _) (Nat.le_refl _) hv
        · replace hv := hv.2.2 q
          refine sw_iinc (lo' := [some (vi (ushr32 (ushr32 (and32 (xor32 z (-1)) (z - 1)) 16) 8)), some (vi (29))]) (dJ6_numberOfTrailingZeros_0f7a4.at 35 rfl) rfl (by decide) rfl ?_
          refine sw_iload_n (dJ6_numberOfTrailingZeros_0f7a4.at 36 rfl) rfl rfl ?_
          refine sw_iconst (dJ6_numberOfTrailingZeros_0f7a4.at 37 rfl) ?_
          refine sw_iushr (dJ6_numberOfTrailingZeros_0f7a4.at 38 rfl) ?_
          refine sw_istore_n (lo' := [some (vi (ushr32 (ushr32 (ushr32 (and32 (xor32 z (-1)) (z - 1)) 16) 8) 4)), some (vi (29))]) (dJ6_numberOfTrailingZeros_0f7a4.at 39 rfl) rfl (by decide) rfl ?_
          refine sw_iload_n (dJ6_numberOfTrailingZeros_0f7a4.at 40 rfl) rfl rfl ?_
          refine sw_iconst (dJ6_numberOfTrailingZeros_0f7a4.at 41 rfl) ?_
          refine sw_icmp_le (tgt := 74) (dJ6_numberOfTrailingZeros_0f7a4.at 42 rfl) (by decide) hv.1 (by decide) (fun q => ?_) (fun q => ?_)
          · replace hv := hv.2.1 q
            refine sw_iload_n (dJ6_numberOfTrailingZeros_0f7a4.at 48 rfl) rfl rfl ?_
            refine sw_iload_n (dJ6_numberOfTrailingZeros_0f7a4.at 49 rfl) rfl rfl ?_
            refine sw_iconst (dJ6_numberOfTrailingZeros_0f7a4.at 50 rfl) ?_
            refine sw_iushr (dJ6_numberOfTrailingZeros_0f7a4.at 51 rfl) ?_
            refine sw_iadd (dJ6_numberOfTrailingZeros_0f7a4.at 52 rfl) ?_
            exact sw_iret (dJ6_numberOfTrailingZeros_0f7a4.at 53 rfl) rfl (Nat.le_refl _) (Nat.le_refl _) hv
          · replace hv := hv.2.2 q
            refine sw_iinc (lo' := [some (vi (ushr32 (ushr32 (ushr32 (and32 (xor32 z (-1)) (z - 1)) 16) 8) 4)), some (vi (31))]) (dJ6_numberOfTrailingZeros_0f7a4.at 43 rfl) rfl (by decide) rfl ?_
            refine sw_iload_n (dJ6_numberOfTrailingZeros_0f7a4.at 44 rfl) rfl rfl ?_
            refine sw_iconst (dJ6_numberOfTrailingZeros_0f7a4.at 45 rfl) ?_
            refine sw_iushr (dJ6_numberOfTrailingZeros_0f7a4.at 46 rfl) ?_
            refine sw_istore_n (lo' := [some (vi (ushr32 (ushr32 (ushr32 (ushr32 (and32 (xor32 z (-1)) (z - 1)) 16) 8) 4) 2)), some (vi (31))]) (dJ6_numberOfTrailingZeros_0f7a4.at 47 rfl) rfl (by decide) rfl ?_
            refine sw_iload_n (dJ6_numberOfTrailingZeros_0f7a4.at 48 rfl) rfl rfl ?_
            refine sw_iload_n (dJ6_numberOfTrailingZeros_0f7a4.at 49 rfl) rfl rfl ?_
            refine sw_iconst (dJ6_numberOfTrailingZeros_0f7a4.at 50 rfl) ?_
            refine sw_iushr (dJ6_numberOfTrailingZeros_0f7a4.at 51 rfl) ?_
            refine sw_iadd (dJ6_numberOfTrailingZeros_0f7a4.at 52 rfl) ?_
            exact sw_iret (dJ6_numberOfTrailingZeros_0f7a4.at 53 rfl) rfl (Nat.le_refl _) (Nat.le_refl _) hv
  · replace hv := hv.2.2 q
    refine sw_iload_n (dJ6_numberOfTrailingZeros_0f7a4.at 10 rfl) rfl rfl ?_
    refine sw_bipush (dJ6_numberOfTrailingZeros_0f7a4.at 11 rfl) (by decide) ?_
    refine sw_iand (dJ6_numberOfTrailingZeros_0f7a4.at 12 rfl) ?_
    exact sw_iret (dJ6_numberOfTrailingZeros_0f7a4.at 13 rfl) rfl (Nat.le_refl _) (Nat.le_refl _) hv

set_option maxHeartbeats 2000000 in
theorem c_J6_numberOfTrailingZeros_0f7a4 {G : GG} {j nw nx gn : Nat} {g : Nat → Sh} {c : Nat → Nat → Int} {post : Option AV → AM → Prop} {k : Nat} {z : Int} (p1 : and32 (xor32 z (-1)) (z - 1) = ((2 ^ k - 1 : Nat) : Int)) (p2 : k < 32) (K : post (some (vi (((k : Nat) : Int)))) (S nw nx g, 78 + gn, c)) : SM G (j + 1) mJ6_numberOfTrailingZeros_0f7a4 [vi (z)] (S nw nx g, 78 + gn, c) 0 0 post := by
  refine sm_of wJ6_numberOfTrailingZeros_0f7a4 rfl (Nat.le_of_ble_eq_true rfl) ?_
  refine g_J6_numberOfTrailingZeros_0f7a4_0  ?_
  have r9 : -2147483648 ≤ ((2 ^ k - 1 : Nat) : Int) ∧ ((2 ^ k - 1 : Nat) : Int) < 2147483648 := by
    have hp : 2 ^ k ≤ 2 ^ 31 := Nat.pow_le_pow_right (by decide) (by omega)
    omega
  rw [p1]
  have hk : k = 0 ∨ k = 1 ∨ k = 2 ∨ k = 3 ∨ k = 4 ∨ k = 5 ∨ k = 6 ∨ k = 7 ∨ k = 8 ∨ k = 9 ∨ k = 10 ∨ k = 11 ∨ k = 12 ∨ k = 13 ∨ k = 14 ∨ k = 15 ∨ k = 16 ∨ k = 17 ∨ k = 18 ∨ k = 19 ∨ k = 20 ∨ k = 21 ∨ k = 22 ∨ k = 23 ∨ k = 24 ∨ k = 25 ∨ k = 26 ∨ k = 27 ∨ k = 28 ∨ k = 29 ∨ k = 30 ∨ k = 31 := by omega
  clear p1 p2 r9
  have K1 : ∀ z : Int, z = ((k : Nat) : Int) → post (some (vi z)) (S nw nx g, 78 + gn, c) := fun z h => h ▸ K
  clear K
  rcases hk with rfl | rfl | rfl | rfl | rfl | rfl | rfl | rfl | rfl | rfl | rfl | rfl | rfl | rfl | rfl | rfl | rfl | rfl | rfl | rfl | rfl | rfl | rfl | rfl | rfl | rfl | rfl | rfl | rfl | rfl | rfl | rfl
  all_goals
    refine ⟨?_, ⟨fun q => ⟨?_, ⟨fun q => ⟨?_, ⟨fun q => ⟨?_, ⟨fun q => ⟨?_, ⟨fun q => ?_, fun q => ?_⟩⟩, fun q => ⟨?_, ⟨fun q => ?_, fun q => ?_⟩⟩⟩⟩, fun q => ⟨?_, ⟨fun q => ⟨?_, ⟨fun q => ?_, fun q => ?_⟩⟩, fun q => ⟨?_, ⟨fun q => ?_, fun q => ?_⟩⟩⟩⟩⟩⟩, fun q => ⟨?_, ⟨fun q => ⟨?_, ⟨fun q => ⟨?_, ⟨fun q => ?_, fun q => ?_⟩⟩, fun q => ⟨?_, ⟨fun q => ?_, fun q => ?_⟩⟩⟩⟩, fun q => ⟨?_, ⟨fun q => ⟨?_, ⟨fun q => ?_, fun q => ?_⟩⟩, fun q => ⟨?_, ⟨fun q => ?_, fun q => ?_⟩⟩⟩⟩⟩⟩⟩⟩, fun q => ?_⟩⟩
    all_goals first | decide | (exact K1 _ (by decide)) | (exfalso; revert q; decide) | (exfalso; rename_i q1; revert q1; decide) | (exfalso; rename_i q2 q1; revert q2; decide) | (exfalso; rename_i q3 q2 q1; revert q3; decide) | (exfalso; rename_i q4 q3 q2 q1; revert q4; decide)

theorem c_J6n {G : GG} {j nw nx gn : Nat} {g : Nat → Sh} {c : Nat → Nat → Int} {post : Option AV → AM → Prop} {n : Nat} (p1 : 0 < n) (p2 : n < 2 ^ 32) (K : post (some (vi (((lsb n : Nat) : Int)))) (S nw nx g, 78 + gn, c)) : SM G (j + 1) mJ6_numberOfTrailingZeros_0f7a4 [vi (((n : Nat) : Int))] (S nw nx g, 78 + gn, c) 0 0 post :=
  have h := lsb_is p1 (Nat.lt_trans p2 (by decide))
  c_J6_numberOfTrailingZeros_0f7a4 (tz_mask h (isL_lt h p2)) (isL_lt h p2) K
set_option maxHeartbeats 2000000 in
set_option maxRecDepth 20000 in
theorem g_J13_numberOfTrailingZeros_95d88_0 {G : GG} {j nw nx gn : Nat} {g : Nat → Sh} {c : Nat → Nat → Int} {post : Option AV → AM → Prop} {n : Nat} {kk : Nat}  (hv : (-2147483648 ≤ i32 ((n : Nat) : Int) ∧ i32 ((n : Nat) : Int) < 2147483648) ∧ (((i32 ((n : Nat) : Int) ≠ 0) → (and32 (xor32 (i32 ((n : Nat) : Int)) (-1)) ((i32 ((n : Nat) : Int)) - 1) = ((2 ^ kk - 1 : Nat) : Int)) ∧ (kk < 32) ∧ (post (some (vi (((kk : Nat) : Int)))) (S nw nx g, 78 + gn, c))) ∧ ((i32 ((n : Nat) : Int) = 0) → (and32 (xor32 (i32 (ushr64 ((n : Nat) : Int) 32)) (-1)) ((i32 (ushr64 ((n : Nat) : Int) 32)) - 1) = ((2 ^ kk - 1 : Nat) : Int)) ∧ (kk < 32) ∧ (post (some (vi (((32 + kk : Nat) : Int)))) (S nw nx g, 78 + gn, c))))) :
    SW G (j + 1) mJ13_numberOfTrailingZeros_95d88 0 [some (vl (((n : Nat) : Int))), none, none] [] (S nw nx g, 78 + gn, c) B0 post := by
  refine sw_lload_n (dJ13_numberOfTrailingZeros_95d88.at 0 rfl) rfl rfl ?_
  refine sw_l2i (dJ13_numberOfTrailingZeros_95d88.at 1 rfl) ?_
  refine sw_topI (y := i32 ((n : Nat) : Int)) (i32_of ((n : Nat) : Int)).symm ?_
  refine sw_istore_n (lo' := [some (vl (((n : Nat) : Int))), none, some (vi (i32 ((n : Nat) : Int)))]) (dJ13_numberOfTrailingZeros_95d88.at 2 rfl) rfl (by decide) rfl ?_
  refine sw_iload_n (dJ13_numberOfTrailingZeros_95d88.at 3 rfl) rfl rfl ?_
  refine sw_if_ne (tgt := 21) (dJ13_numberOfTrailingZeros_95d88.at 4 rfl) (by decide) hv.1 (fun q => ?_) (fun q => ?_)
  · replace hv := hv.2.1 q
    refine sw_iload_n (dJ13_numberOfTrailingZeros_95d88.at 13 rfl) rfl rfl ?_
    refine sw_callS (post' := post) (B' := B0) (As := [vi (i32 ((n : Nat) : Int))]) (mc := 0) (ms := 0) (dJ13_numberOfTrailingZeros_95d88.at 14 rfl) lk_J13_311 rfl rfl (Nat.le_of_ble_eq_true rfl) rfl (Nat.le_refl _) (Nat.le_refl _) ?_
    refine c_J6_numberOfTrailingZeros_0f7a4 (z := (i32 ((n : Nat) : Int))) (k := kk) (j := j + 0) hv.1 hv.2.1 ?_
    replace hv := hv.2.2
    exact sw_iret (dJ13_numberOfTrailingZeros_95d88.at 15 rfl) rfl (Nat.le_refl _) (Nat.le_refl _) hv
  · replace hv := hv.2.2 q
    refine sw_bipush (dJ13_numberOfTrailingZeros_95d88.at 5 rfl) (by decide) ?_
    refine sw_lload_n (dJ13_numberOfTrailingZeros_95d88.at 6 rfl) rfl rfl ?_
    refine sw_bipush (dJ13_numberOfTrailingZeros_95d88.at 7 rfl) (by decide) ?_
    refine sw_lushr (dJ13_numberOfTrailingZeros_95d88.at 8 rfl) ?_
    refine sw_l2i (dJ13_numberOfTrailingZeros_95d88.at 9 rfl) ?_
    refine sw_topI (y := i32 (ushr64 ((n : Nat) : Int) 32)) (i32_of (ushr64 ((n : Nat) : Int) 32)).symm ?_
    refine sw_callS (post' := post) (B' := B0) (As := [vi (i32 (ushr64 ((n : Nat) : Int) 32))]) (mc := 0) (ms := 0) (dJ13_numberOfTrailingZeros_95d88.at 10 rfl) lk_J13_311 rfl rfl (Nat.le_of_ble_eq_true rfl) rfl (Nat.le_refl _) (Nat.le_refl _) ?_
    refine c_J6_numberOfTrailingZeros_0f7a4 (z := (i32 (ushr64 ((n : Nat) : Int) 32))) (k := kk) (j := j + 0) hv.1 hv.2.1 ?_
    replace hv := hv.2.2
    refine sw_iadd (dJ13_numberOfTrailingZeros_95d88.at 11 rfl) ?_
    refine sw_topI (y := ((32 + kk : Nat) : Int)) (by first | rfl | (congr 1)) ?_
    refine sw_goto (tgt := 25) (dJ13_numberOfTrailingZeros_95d88.at 12 rfl) (by decide) ?_
    exact sw_iret (dJ13_numberOfTrailingZeros_95d88.at 15 rfl) rfl (Nat.le_refl _) (Nat.le_refl _) hv

theorem c_J13_numberOfTrailingZeros_95d88 {G : GG} {j nw nx gn : Nat} {g : Nat → Sh} {c : Nat → Nat → Int} {post : Option AV → AM → Prop} {n : Nat} (p1 : 0 < n) (p2 : n < 2 ^ 63) (K : post (some (vi (((lsb n : Nat) : Int)))) (S nw nx g, 78 + gn, c)) : SM G (j + 2) mJ13_numberOfTrailingZeros_95d88 [vl (((n : Nat) : Int))] (S nw nx g, 78 + gn, c) 0 0 post := by
  refine sm_of wJ13_numberOfTrailingZeros_95d88 rfl (Nat.le_of_ble_eq_true rfl) ?_
  have h := lsb_is p1 (Nat.lt_trans p2 (by decide))
  have hl := isL_lt h p2
  by_cases hk : lsb n < 32
  · refine g_J13_numberOfTrailingZeros_95d88_0 (kk := lsb n) ?_
    have h1 := tz_mask32 (i32_of (n : Int)) h hk
    have hz : i32 (n : Int) ≠ 0 := by
      intro e
      have e2 := i32_of (n : Int)
      rw [e, nI_of_int] at e2
      have e3 : (nI n).toBitVec = BitVec.ofNat 32 0 := by rw [← e2]; rfl
      have e4 : BitVec.ofNat 32 n = BitVec.ofNat 32 0 := e3
      have e5 := congrArg (fun b => b.getLsbD (lsb n)) e4
      simp only [BitVec.getLsbD_ofNat, h.1, hk, decide_true] at e5
      simp at e5
    have r := i32_rng (n : Int)
    refine ⟨?_, ⟨fun q => ⟨?_, ?_, ?_⟩, fun q => ⟨?_, ?_, ?_⟩⟩⟩
    all_goals first | exact r | exact h1 | exact hk | exact K | (exfalso; exact hz (by assumption)) | omega
  · refine g_J13_numberOfTrailingZeros_95d88_0 (kk := lsb n - 32) ?_
    have hz : i32 (n : Int) = 0 := by
      have e4 : BitVec.ofNat 32 n = BitVec.ofNat 32 0 := by
        apply BitVec.eq_of_getLsbD_eq
        intro i hi
        rw [BitVec.getLsbD_ofNat, BitVec.getLsbD_ofNat, h.2 i (by omega)]
        simp
      have e5 : Int32.ofInt (n : Int) = Int32.ofInt 0 := Int32.toBitVec_inj.mp e4
      rw [i32, e5]; rfl
    have hu : ushr64 (n : Int) 32 = ((n / 2 ^ 32 : Nat) : Int) := by
      have e1 : ((Int32.ofInt 32).toInt64.toUInt64 &&& Int64.toUInt64 63) = (32 : UInt64) := by decide
      have e2 : ((Int64.ofInt (n : Int)).toUInt64 >>> (32 : UInt64)).toInt64 = Int64.ofInt ((n / 2 ^ 32 : Nat) : Int) := by
        apply Int64.toBitVec_inj.mp
        show (BitVec.ofNat 64 n) >>> (BitVec.ofNat 64 32) = BitVec.ofNat 64 (n / 2 ^ 32)
        apply BitVec.eq_of_toNat_eq
        rw [BitVec.ushiftRight_eq', BitVec.toNat_ushiftRight, BitVec.toNat_ofNat, BitVec.toNat_ofNat, BitVec.toNat_ofNat, Nat.shiftRight_eq_div_pow, Nat.mod_eq_of_lt (Nat.lt_trans p2 (by decide)), Nat.mod_eq_of_lt (Nat.lt_of_le_of_lt (Nat.div_le_self _ _) (Nat.lt_trans p2 (by decide)))]
      rw [ushr64, e1, e2]
      have e3 : n / 2 ^ 32 ≤ n := Nat.div_le_self _ _
      exact l_toInt (by omega)
    have hs : isL (n / 2 ^ 32) (lsb n - 32) := by
      refine ⟨?_, fun i hi => ?_⟩
      · rw [Nat.testBit_div_two_pow, show lsb n - 32 + 32 = lsb n by omega]; exact h.1
      · rw [Nat.testBit_div_two_pow]; exact h.2 _ (by omega)
    have h1 := tz_mask32 (z := i32 (ushr64 (n : Int) 32)) (n := n / 2 ^ 32) (by rw [i32_of, hu]) hs (by omega)
    have K1 : ∀ z : Int, z = ((lsb n : Nat) : Int) → post (some (vi z)) (S nw nx g, 78 + gn, c) := fun z h => h ▸ K
    refine ⟨?_, ⟨fun q => ⟨?_, ?_, ?_⟩, fun q => ⟨?_, ?_, ?_⟩⟩⟩
    all_goals first | exact i32_rng _ | exact h1 | omega | exact K1 _ (by omega) | (exfalso; omega) | skip

