/-! a row after the move at a place -/
def dg (r z q : Nat) : Nat := r / 8 ^ (z - 1 - q) % 8
theorem dg_ext : ∀ z a b, a < 8 ^ z → b < 8 ^ z → (∀ q, q < z → dg a z q = dg b z q) → a = b := by
  intro z
  induction z with
  | zero => intro a b ha hb _; rw [Nat.pow_zero] at ha hb; omega
  | succ z ih =>
    intro a b ha hb h
    have h0 := h z (by omega)
    rw [dg, dg, show z + 1 - 1 - z = 0 by omega, Nat.pow_zero, Nat.div_one, Nat.div_one] at h0
    rw [Nat.pow_succ] at ha hb
    have h1 := ih (a / 8) (b / 8) (Nat.div_lt_of_lt_mul (by rw [Nat.mul_comm]; exact ha)) (Nat.div_lt_of_lt_mul (by rw [Nat.mul_comm]; exact hb)) (fun q hq => by
      have := h q (by omega)
      rw [dg, dg] at this ⊢
      rw [Nat.div_div_eq_div_mul, Nat.div_div_eq_div_mul, ← Nat.pow_succ', show (z - 1 - q).succ = z + 1 - 1 - q by omega]
      exact this)
    omega
theorem dg_xor {a d z p q : Nat} (hd : d < 8) (hp : p < z) (hq : q < z) : dg (a ^^^ d * 2 ^ (3 * (z - 1 - p))) z q = if q = p then dg a z q ^^^ d else dg a z q := by
  have e8 : ∀ k, 8 ^ k = 2 ^ (3 * k) := fun k => by rw [Nat.pow_mul]
  have key : d * 2 ^ (3 * (z - 1 - p)) / 2 ^ (3 * (z - 1 - q)) % 2 ^ 3 = if q = p then d else 0 := by
    rcases Nat.lt_trichotomy q p with h | h | h
    · rw [if_neg (by omega)]
      have h3 : 3 * (z - 1 - q) = 3 * (z - 1 - p) + 3 * (p - q) := by omega
      rw [h3, Nat.pow_add, ← Nat.div_div_eq_div_mul, Nat.mul_div_cancel _ (Nat.pos_of_ne_zero (by simp))]
      have h4 : 2 ^ 3 ≤ 2 ^ (3 * (p - q)) := Nat.pow_le_pow_right (by decide) (by omega)
      rw [Nat.div_eq_of_lt (by omega)]
    · rw [if_pos h, h, Nat.mul_div_cancel _ (Nat.pos_of_ne_zero (by simp))]
      exact Nat.mod_eq_of_lt hd
    · rw [if_neg (by omega)]
      have h3 : 3 * (z - 1 - p) = 3 * (z - 1 - q) + (3 * (q - p - 1) + 3) := by omega
      rw [h3, Nat.pow_add, Nat.mul_left_comm, Nat.mul_div_cancel_left _ (Nat.pos_of_ne_zero (by simp)), Nat.pow_add, ← Nat.mul_assoc]
      exact Nat.mul_mod_left _ _
  rw [dg, dg, e8, ← Nat.shiftRight_eq_div_pow, Nat.shiftRight_xor_distrib, show (8 : Nat) = 2 ^ 3 from rfl, Nat.xor_mod_two_pow, Nat.shiftRight_eq_div_pow, Nat.shiftRight_eq_div_pow, key]
  split
  · rfl
  · rw [Nat.xor_zero]
def mdL (r z i one oth : Nat) : Nat → Nat → Nat → Nat
  | 0, _, a => a
  | f + 1, q, a => if dg r z q = (if (q - i) % 2 = 0 then one else oth) then mdL r z i one oth f (q + 1) (a ^^^ (one ^^^ oth) * 2 ^ (3 * (z - 1 - q))) else r
def mvd (P : GD) (r z i : Nat) : Nat :=
  if dg r z i = dg r z (i + 1) ∨ z < i + gBd P (dg r z i) (dg r z (i + 1)) then r else mdL r z i (dg r z i) (dg r z (i + 1)) (gBd P (dg r z i) (dg r z (i + 1))) i r
theorem dg_lt (r z q : Nat) : dg r z q < 8 := Nat.mod_lt _ (by decide)
theorem mdL_yes {r z i one oth : Nat} (h1 : one < 8) (h2 : oth < 8) : ∀ f q a, q + f ≤ z → a < 8 ^ z → (∀ p, q ≤ p → p < q + f → dg r z p = if (p - i) % 2 = 0 then one else oth) → mdL r z i one oth f q a < 8 ^ z ∧ ∀ p, p < z → dg (mdL r z i one oth f q a) z p = if q ≤ p ∧ p < q + f then dg a z p ^^^ (one ^^^ oth) else dg a z p := by
  have e8 : 8 ^ z = 2 ^ (3 * z) := by rw [Nat.pow_mul]
  have hx : one ^^^ oth < 8 := Nat.xor_lt_two_pow (n := 3) h1 h2
  intro f
  induction f with
  | zero => intro q a _ ha _; exact ⟨ha, fun p hp => by rw [mdL, if_neg (by omega)]⟩
  | succ f ih =>
    intro q a hq ha h
    rw [mdL, if_pos (h q (by omega) (by omega))]
    have hb : (one ^^^ oth) * 2 ^ (3 * (z - 1 - q)) < 2 ^ (3 * z) := by
      have : 3 * z = 3 + 3 * (z - 1 - q) + 3 * q := by omega
      rw [this, Nat.pow_add, Nat.pow_add]
      have p1 : 0 < 2 ^ (3 * (z - 1 - q)) := Nat.pos_of_ne_zero (by simp)
      have p2 : 0 < 2 ^ (3 * q) := Nat.pos_of_ne_zero (by simp)
      have p3 : (one ^^^ oth) * 2 ^ (3 * (z - 1 - q)) < 2 ^ 3 * 2 ^ (3 * (z - 1 - q)) := Nat.mul_lt_mul_of_pos_right hx p1
      exact Nat.lt_of_lt_of_le p3 (Nat.le_mul_of_pos_right _ p2)
    have ha2 : a ^^^ (one ^^^ oth) * 2 ^ (3 * (z - 1 - q)) < 8 ^ z := by
      rw [e8] at ha ⊢
      exact Nat.xor_lt_two_pow ha hb
    obtain ⟨c1, c2⟩ := ih (q + 1) _ (by omega) ha2 (fun p hp hp2 => h p (by omega) (by omega))
    refine ⟨c1, fun p hp => ?_⟩
    rw [c2 p hp, dg_xor hx (by omega) hp]
    by_cases e : p = q
    · rw [if_neg (by omega), if_pos e, if_pos (by omega)]
    · rw [if_neg e]
      by_cases e2 : q + 1 ≤ p ∧ p < q + 1 + f
      · rw [if_pos e2, if_pos (by omega)]
      · rw [if_neg e2, if_neg (by omega)]
theorem mdL_no {r z i one oth : Nat} : ∀ f q a p, q ≤ p → p < q + f → dg r z p ≠ (if (p - i) % 2 = 0 then one else oth) → mdL r z i one oth f q a = r := by
  intro f
  induction f with
  | zero => intro q a p _ _; omega
  | succ f ih =>
    intro q a p hq hp h
    rw [mdL]
    by_cases e : dg r z q = (if (q - i) % 2 = 0 then one else oth)
    · rw [if_pos e]
      have : q ≠ p := fun e2 => by rw [e2] at e; exact h e
      exact ih _ _ p (by omega) (by omega) h
    · rw [if_neg e]
theorem xor_l {a b : Nat} : a ^^^ (a ^^^ b) = b := by rw [← Nat.xor_assoc, Nat.xor_self, Nat.zero_xor]
theorem xor_r {a b : Nat} : b ^^^ (a ^^^ b) = a := by rw [Nat.xor_comm a b, ← Nat.xor_assoc, Nat.xor_self, Nat.zero_xor]
theorem dg_row {P : GD} (hV : GV P) {x y q : Nat} (hq : q < gL P x) : dg (rowF P (gL P x) x y 0) (gL P x) q = rlF P q x y := rowF_let hV _ _ _ _ _ hq
theorem mvd_lt {P : GD} {i r z : Nat} (hr : r < 8 ^ z) : mvd P r z i < 8 ^ z := by
  rw [mvd]
  by_cases e : dg r z i = dg r z (i + 1) ∨ z < i + gBd P (dg r z i) (dg r z (i + 1))
  · rw [if_pos e]; exact hr
  · rw [if_neg e]
    by_cases h : ∀ p, i ≤ p → p < i + gBd P (dg r z i) (dg r z (i + 1)) → dg r z p = if (p - i) % 2 = 0 then dg r z i else dg r z (i + 1)
    · exact (mdL_yes (dg_lt _ _ _) (dg_lt _ _ _) _ _ _ (by omega) hr h).1
    · have ⟨p, hp⟩ := Classical.not_forall.mp h
      have ⟨h1, hp⟩ := Classical.not_imp.mp hp
      have ⟨h2, hp⟩ := Classical.not_imp.mp hp
      rw [mdL_no _ _ _ p h1 h2 hp]; exact hr
theorem NB_mvd {P : GD} (hV : GV P) {x k l i : Nat} (hi : i + 1 < gL P x) (h : NB P x k l i) : rowF P (gL P x) x l 0 = mvd P (rowF P (gL P x) x k 0) (gL P x) i := by
  obtain ⟨_, h2, h3⟩ := h
  have lk := rowF_8 hV (gL P x) x k
  rw [mvd, dg_row hV (by omega), dg_row hV hi]
  rw [mlen] at h2 h3
  have d1 : rlF P i x k < 8 := by rw [← dg_row hV (show i < gL P x by omega)]; exact dg_lt _ _ _
  have d2 : rlF P (i + 1) x k < 8 := by rw [← dg_row hV hi]; exact dg_lt _ _ _
  generalize hm : gBd P (rlF P i x k) (rlF P (i + 1) x k) = mm at *
  by_cases e : rlF P i x k = rlF P (i + 1) x k
  · rw [if_pos (Or.inl e)]
    refine dg_ext (gL P x) _ _ (rowF_8 hV _ _ _) lk (fun q hq => ?_)
    rw [dg_row hV hq, dg_row hV hq]
    have := h3 q hq
    simp only [mvC, Bool.and_eq_true, decide_eq_true_eq, e, ite_self] at this
    obtain ⟨t1, t2⟩ := this
    rw [t2]
    split
    · rename_i hh; rw [if_pos hh] at t1; exact t1.symm
    · rfl
  · rw [if_neg (by omega)]
    have hy : ∀ p, i ≤ p → p < i + mm → dg (rowF P (gL P x) x k 0) (gL P x) p = if (p - i) % 2 = 0 then rlF P i x k else rlF P (i + 1) x k := by
      intro p hp hp2
      have := h3 p (by omega)
      simp only [mvC, Bool.and_eq_true, decide_eq_true_eq] at this
      rw [dg_row hV (by omega)]
      have t := this.1
      rw [if_pos (show i ≤ p ∧ p < i + mm from ⟨hp, hp2⟩)] at t
      exact t
    obtain ⟨c1, c2⟩ := mdL_yes d1 d2 mm i _ (by omega) lk hy
    refine dg_ext (gL P x) _ _ (rowF_8 hV _ _ _) c1 (fun q hq => ?_)
    rw [c2 q hq, dg_row hV hq]
    have := h3 q hq
    simp only [mvC, Bool.and_eq_true, decide_eq_true_eq] at this
    obtain ⟨t1, t2⟩ := this
    rw [t2]
    by_cases hh : i ≤ q ∧ q < i + mm
    · rw [if_pos hh, if_pos hh, hy q hh.1 hh.2]
      by_cases h0 : (q - i) % 2 = 0
      · rw [if_pos h0, if_pos h0, xor_l]
      · rw [if_neg h0, if_neg h0, xor_r]
    · rw [if_neg hh, if_neg hh, dg_row hV hq]
theorem mvd_NB {P : GD} (hV : GV P) {x k l i : Nat} (hi : i + 1 < gL P x) (hne : mvd P (rowF P (gL P x) x k 0) (gL P x) i ≠ rowF P (gL P x) x k 0) (h : rowF P (gL P x) x l 0 = mvd P (rowF P (gL P x) x k 0) (gL P x) i) : NB P x k l i := by
  have lk := rowF_8 hV (gL P x) x k
  rw [mvd, dg_row hV (by omega), dg_row hV hi] at h hne
  have d1 : rlF P i x k < 8 := by rw [← dg_row hV (show i < gL P x by omega)]; exact dg_lt _ _ _
  have d2 : rlF P (i + 1) x k < 8 := by rw [← dg_row hV hi]; exact dg_lt _ _ _
  rw [NB, mlen]
  generalize hm : gBd P (rlF P i x k) (rlF P (i + 1) x k) = mm at *
  by_cases e : rlF P i x k = rlF P (i + 1) x k ∨ gL P x < i + mm
  · rw [if_pos e] at hne; exact absurd rfl hne
  · rw [if_neg e] at h hne
    have hy : ∀ p, i ≤ p → p < i + mm → dg (rowF P (gL P x) x k 0) (gL P x) p = if (p - i) % 2 = 0 then rlF P i x k else rlF P (i + 1) x k := by
      intro p hp hp2
      by_cases q : dg (rowF P (gL P x) x k 0) (gL P x) p = if (p - i) % 2 = 0 then rlF P i x k else rlF P (i + 1) x k
      · exact q
      · exact absurd (mdL_no _ _ _ p hp hp2 q) hne
    obtain ⟨c1, c2⟩ := mdL_yes d1 d2 mm i _ (by omega) lk hy
    refine ⟨hi, by omega, fun q hq => ?_⟩
    have c3 := c2 q hq
    rw [← h, dg_row hV hq, dg_row hV hq] at c3
    simp only [mvC, Bool.and_eq_true, decide_eq_true_eq]
    by_cases hh : i ≤ q ∧ q < i + mm
    · have t := hy q hh.1 hh.2
      rw [dg_row hV hq] at t
      rw [if_pos hh] at c3 ⊢
      rw [if_pos hh]
      refine ⟨t, ?_⟩
      rw [c3, t]
      by_cases h0 : (q - i) % 2 = 0
      · rw [if_pos h0, if_pos h0, xor_l]
      · rw [if_neg h0, if_neg h0, xor_r]
    · rw [if_neg hh] at c3 ⊢
      rw [if_neg hh]
      exact ⟨rfl, c3⟩
