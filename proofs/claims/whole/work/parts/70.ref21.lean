theorem and64_m1 (x : Int) : Int64.ofInt (and64 x (-1)) = Int64.ofInt x := by
  rw [and64, l_of_toInt]
  apply Int64.toBitVec_inj.mp
  show (Int64.ofInt x).toBitVec &&& BitVec.allOnes 64 = (Int64.ofInt x).toBitVec
  exact BitVec.and_allOnes
def hDn (P : GD) : Prop := ∀ y, y < gN P → gD P y < 2 ^ gN P
def ibY (P : GD) (T x : Nat) : Nat → Nat → Nat → Nat
  | 0, _, a => a
  | k + 1, y, a => ibY P T x k (y + 1) (a ||| (if T.testBit y && (gD P y).testBit x then 1 * 2 ^ x else 0))
def ibX (P : GD) (T : Nat) : Nat → Nat → Nat → Nat
  | 0, _, a => a
  | k + 1, x, a => ibX P T k (x + 1) (ibY P T x (gN P) 0 a)
theorem ibY_bit {P : GD} {T x : Nat} : ∀ k y a t, (ibY P T x k y a).testBit t = true ↔ a.testBit t = true ∨ (t = x ∧ ∃ q, y ≤ q ∧ q < y + k ∧ T.testBit q = true ∧ (gD P q).testBit x = true) := by
  intro k
  induction k with
  | zero => intro y a t; rw [ibY]; exact ⟨Or.inl, fun h => h.elim id (fun h => by obtain ⟨_, q, h1, h2, _⟩ := h; omega)⟩
  | succ k ih =>
    intro y a t
    rw [ibY, ih, Nat.testBit_or, Bool.or_eq_true]
    constructor
    · rintro ((h | h) | ⟨h1, q, h2, h3, h4⟩)
      · exact Or.inl h
      · split at h
        · rename_i hc
          rw [Bool.and_eq_true] at hc
          rw [Nat.one_mul, Nat.testBit_two_pow] at h
          have := of_decide_eq_true h
          exact Or.inr ⟨by omega, y, by omega, by omega, hc.1, hc.2⟩
        · simp at h
      · exact Or.inr ⟨h1, q, by omega, by omega, h4⟩
    · rintro (h | ⟨h1, q, h2, h3, h4, h5⟩)
      · exact Or.inl (Or.inl h)
      · by_cases e : q = y
        · subst e
          left; right
          rw [h4, h5, h1]
          simp [Nat.testBit_two_pow_self]
        · exact Or.inr ⟨h1, q, by omega, by omega, h4, h5⟩
theorem ibX_bit {P : GD} {T : Nat} : ∀ k x a t, (ibX P T k x a).testBit t = true ↔ a.testBit t = true ∨ (x ≤ t ∧ t < x + k ∧ ∃ q, q < gN P ∧ T.testBit q = true ∧ (gD P q).testBit t = true) := by
  intro k
  induction k with
  | zero => intro x a t; rw [ibX]; exact ⟨Or.inl, fun h => h.elim id (fun h => by omega)⟩
  | succ k ih =>
    intro x a t
    rw [ibX, ih, ibY_bit]
    constructor
    · rintro ((h | ⟨h1, q, h2, h3, h4, h5⟩) | ⟨h1, h2, q, h3⟩)
      · exact Or.inl h
      · exact Or.inr ⟨by omega, by omega, q, by omega, h4, h1 ▸ h5⟩
      · exact Or.inr ⟨by omega, by omega, q, h3⟩
    · rintro (h | ⟨h1, h2, q, h3, h4, h5⟩)
      · exact Or.inl (Or.inl h)
      · by_cases e : t = x
        · exact Or.inl (Or.inr ⟨e, q, by omega, by omega, h4, e ▸ h5⟩)
        · exact Or.inr ⟨by omega, by omega, q, h3, h4, h5⟩
theorem gAb_bit {P : GD} {T : Nat} : ∀ n t, (gAb P T n).testBit t = true ↔ ∃ q, q < n ∧ T.testBit q = true ∧ (gD P q).testBit t = true := by
  intro n
  induction n with
  | zero => intro t; rw [gAb]; simp
  | succ n ih =>
    intro t
    rw [gAb]
    split
    · rename_i h
      rw [Nat.testBit_or, Bool.or_eq_true, ih]
      constructor
      · rintro (⟨q, h1, h2⟩ | h1)
        · exact ⟨q, by omega, h2⟩
        · exact ⟨n, by omega, h, h1⟩
      · rintro ⟨q, h1, h2, h3⟩
        by_cases e : q = n
        · right; rw [← e]; exact h3
        · left; exact ⟨q, by omega, h2, h3⟩
    · rename_i h
      rw [ih]
      constructor
      · rintro ⟨q, h1, h2⟩; exact ⟨q, by omega, h2⟩
      · rintro ⟨q, h1, h2, h3⟩
        by_cases e : q = n
        · rw [e] at h2; exact absurd h2 h
        · exact ⟨q, by omega, h2, h3⟩
theorem bit_ge {n m t : Nat} (h : n < 2 ^ m) (ht : m ≤ t) : n.testBit t = false := Nat.testBit_lt_two_pow (Nat.lt_of_lt_of_le h (Nat.pow_le_pow_right (by decide) ht))
theorem bool_ext {a b : Bool} (h : a = true ↔ b = true) : a = b := by cases a <;> cases b <;> simp_all
theorem ib_eq {P : GD} (hd : hDn P) (T : Nat) : ibX P T (gN P) 0 0 = gAb P T (gN P) := by
  apply Nat.eq_of_testBit_eq
  intro t
  apply bool_ext
  rw [ibX_bit, gAb_bit]
  constructor
  · rintro (h | ⟨h1, h2, q, h3⟩)
    · simp at h
    · exact ⟨q, h3⟩
  · rintro ⟨q, h1, h2, h3⟩
    refine Or.inr ⟨by omega, ?_, q, h1, h2, h3⟩
    apply Classical.byContradiction
    intro hn
    rw [bit_ge (hd q h1) (by omega)] at h3
    exact absurd h3 (by decide)
theorem ibY_lt {P : GD} {T x : Nat} (hx : x < 60) : ∀ k y a, a < 2 ^ 60 → ibY P T x k y a < 2 ^ 60 := by
  intro k
  induction k with
  | zero => intro y a h; exact h
  | succ k ih =>
    intro y a h
    refine ih _ _ (Nat.or_lt_two_pow h ?_)
    split
    · exact p60 hx
    · decide
def hgY (P : GD) (O x : Nat) : Nat → Nat → Nat → Nat
  | 0, _, a => a
  | k + 1, y, a => hgY P O x k (y + 1) (if O.testBit y && (decide (x ≠ y) && (gD P y).testBit x) then andn a (1 * 2 ^ x) else a)
def hgX (P : GD) (O : Nat) : Nat → Nat → Nat → Nat
  | 0, _, a => a
  | k + 1, x, a => hgX P O k (x + 1) (hgY P O x (gN P) 0 a)
theorem hgY_bit {P : GD} {O x : Nat} : ∀ k y a t, (hgY P O x k y a).testBit t = true ↔ a.testBit t = true ∧ ¬ (t = x ∧ ∃ q, y ≤ q ∧ q < y + k ∧ O.testBit q = true ∧ x ≠ q ∧ (gD P q).testBit x = true) := by
  intro k
  induction k with
  | zero => intro y a t; rw [hgY]; exact ⟨fun h => ⟨h, fun h => by obtain ⟨_, q, h1, h2, _⟩ := h; omega⟩, fun h => h.1⟩
  | succ k ih =>
    intro y a t
    rw [hgY, ih]
    by_cases hc : (O.testBit y && (decide (x ≠ y) && (gD P y).testBit x)) = true
    · rw [if_pos hc, andn_bit, Nat.one_mul, Nat.testBit_two_pow, Bool.and_eq_true]
      rw [Bool.and_eq_true, Bool.and_eq_true] at hc
      constructor
      · rintro ⟨⟨h1, h2⟩, h3⟩
        refine ⟨h1, fun h => ?_⟩
        have : ¬ x = t := by simpa using h2
        exact this h.1.symm
      · rintro ⟨h1, h2⟩
        have hx : ¬ x = t := fun e => h2 ⟨e.symm, y, by omega, by omega, hc.1, of_decide_eq_true hc.2.1, hc.2.2⟩
        refine ⟨⟨h1, by simp [hx]⟩, fun h => hx h.1.symm⟩
    · rw [if_neg hc]
      constructor
      · rintro ⟨h1, h2⟩
        refine ⟨h1, fun h => ?_⟩
        obtain ⟨e, q, a1, a2, a3, a4, a5⟩ := h
        by_cases eq : q = y
        · subst eq
          exact hc (by rw [a3, decide_eq_true a4, a5]; rfl)
        · exact h2 ⟨e, q, by omega, by omega, a3, a4, a5⟩
      · rintro ⟨h1, h2⟩
        refine ⟨h1, fun h => ?_⟩
        obtain ⟨e, q, a1, a2, a3⟩ := h
        exact h2 ⟨e, q, by omega, by omega, a3⟩
theorem hgX_bit {P : GD} {O : Nat} : ∀ k x a t, (hgX P O k x a).testBit t = true ↔ a.testBit t = true ∧ ¬ (x ≤ t ∧ t < x + k ∧ ∃ q, q < gN P ∧ O.testBit q = true ∧ t ≠ q ∧ (gD P q).testBit t = true) := by
  intro k
  induction k with
  | zero => intro x a t; rw [hgX]; exact ⟨fun h => ⟨h, fun h => by omega⟩, fun h => h.1⟩
  | succ k ih =>
    intro x a t
    rw [hgX, ih, hgY_bit]
    constructor
    · rintro ⟨⟨h1, h2⟩, h3⟩
      refine ⟨h1, fun h => ?_⟩
      obtain ⟨a1, a2, q, a3, a4, a5, a6⟩ := h
      by_cases e : t = x
      · exact h2 ⟨e, q, by omega, by omega, a4, e ▸ a5, e ▸ a6⟩
      · exact h3 ⟨by omega, by omega, q, a3, a4, a5, a6⟩
    · rintro ⟨h1, h2⟩
      refine ⟨⟨h1, fun h => ?_⟩, fun h => ?_⟩
      · obtain ⟨e, q, a1, a2, a3, a4, a5⟩ := h
        exact h2 ⟨by omega, by omega, q, by omega, a3, e ▸ a4, e ▸ a5⟩
      · obtain ⟨a1, a2, q, a3⟩ := h
        exact h2 ⟨by omega, by omega, q, a3⟩
theorem gLo_bit {P : GD} {O : Nat} : ∀ n t, (gLo P O n).testBit t = true ↔ ∃ q, q < n ∧ O.testBit q = true ∧ t ≠ q ∧ (gD P q).testBit t = true := by
  intro n
  induction n with
  | zero => intro t; rw [gLo]; simp
  | succ n ih =>
    intro t
    rw [gLo]
    split
    · rename_i h
      rw [Nat.testBit_or, Bool.or_eq_true, ih, andn_bit, Nat.one_mul, Nat.testBit_two_pow, Bool.and_eq_true]
      constructor
      · rintro (⟨q, h1, h2⟩ | ⟨h1, h2⟩)
        · exact ⟨q, by omega, h2⟩
        · have : ¬ n = t := by simpa using h2
          exact ⟨n, by omega, h, fun e => this e.symm, h1⟩
      · rintro ⟨q, h1, h2, h3, h4⟩
        by_cases e : q = n
        · right; subst e; exact ⟨h4, by simp [Ne.symm h3]⟩
        · left; exact ⟨q, by omega, h2, h3, h4⟩
    · rename_i h
      rw [ih]
      constructor
      · rintro ⟨q, h1, h2⟩; exact ⟨q, by omega, h2⟩
      · rintro ⟨q, h1, h2, h3⟩
        by_cases e : q = n
        · rw [e] at h2; exact absurd h2 h
        · exact ⟨q, by omega, h2, h3⟩
theorem hg_eq {P : GD} (hd : hDn P) (O : Nat) : hgX P O (gN P) 0 O = gTp P O := by
  apply Nat.eq_of_testBit_eq
  intro t
  apply bool_ext
  rw [hgX_bit, gTp, andn_bit, Bool.and_eq_true]
  have key : (!(gLo P O (gN P)).testBit t) = true ↔ ¬ ∃ q, q < gN P ∧ O.testBit q = true ∧ t ≠ q ∧ (gD P q).testBit t = true := by
    rw [← gLo_bit]; simp
  rw [key]
  constructor
  · rintro ⟨h1, h2⟩
    refine ⟨h1, fun h => ?_⟩
    obtain ⟨q, a1, a2, a3, a4⟩ := h
    refine h2 ⟨by omega, ?_, q, a1, a2, a3, a4⟩
    apply Classical.byContradiction
    intro hn
    rw [bit_ge (hd q a1) (by omega)] at a4
    exact absurd a4 (by decide)
  · rintro ⟨h1, h2⟩
    exact ⟨h1, fun h => h2 h.2.2⟩
