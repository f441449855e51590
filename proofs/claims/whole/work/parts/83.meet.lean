/-- a number is reckoned before it is used -/
def frc {α : Type} (n : Nat) (g : Nat → α) : α := Nat.casesOn n (g 0) (fun m => g (m + 1))
theorem frc_eq {α : Type} (n : Nat) (g : Nat → α) : frc n g = g n := by cases n <;> rfl
def mkLK (f : Nat → Nat) (K : List Nat → Bool) : Nat → List Nat → Bool
  | 0, l => K l
  | n + 1, l => frc (f n) (fun v => mkLK f K n (v :: l))
theorem mkLK_ok {f : Nat → Nat} {K : List Nat → Bool} : ∀ n l, mkLK f K n l = true → ∃ l2, K l2 = true ∧ (∀ i, i < n → f i ∈ l2) ∧ ∀ a, a ∈ l → a ∈ l2 := by
  intro n
  induction n with
  | zero => intro l h; exact ⟨l, h, fun i hi => by omega, fun a h => h⟩
  | succ n ih =>
    intro l h
    rw [mkLK, frc_eq] at h
    obtain ⟨l2, a, b, c⟩ := ih _ h
    refine ⟨l2, a, fun i hi => ?_, fun q hq => c q (List.mem_cons_of_mem _ hq)⟩
    by_cases e : i = n
    · rw [e]; exact c _ List.mem_cons_self
    · exact b i (by omega)
def lsA (p : Nat → Bool) : List Nat → Bool
  | [] => true
  | a :: l => p a && lsA p l
theorem lsA_at {p : Nat → Bool} : ∀ {l}, lsA p l = true → ∀ a, a ∈ l → p a = true := by
  intro l
  induction l with
  | nil => intro _ a h; cases h
  | cons b l ih =>
    intro h a ha
    obtain ⟨h1, h2⟩ := and2 h
    rcases List.mem_cons.mp ha with e | e
    · rw [e]; exact h1
    · exact ih h2 a e
/-- the first one that is as long -/
def flF (P : GD) : Nat → Nat
  | 0 => 0
  | t + 1 => if Nat.beq (gL P t) (gL P (t + 1)) then flF P t else t + 1
def kM1 (P : GD) (m : Nat) : Bool := frc m (fun m => frc (Nat.log2 m) (fun t => Nat.beq ((m >>> flF P t) % 2 ^ (t - flF P t)) 0))
def kMe (P : GD) : Bool :=
  allB (fun z => Nat.blt (gL P z) (gL P (gN P - 1))) (gN P - 1) &&
  allB (fun sd => mkLK (fun x => bitsU (pWm P x sd) (gN P)) (fun l => lsA (fun a => lsA (fun b => kM1 P (a &&& b)) l) l) (gN P) []) 2
theorem flF_le (P : GD) : ∀ t, flF P t ≤ t := by
  intro t
  induction t with
  | zero => exact Nat.le_refl _
  | succ t ih => rw [flF]; split <;> omega
theorem flF_lt {P : GD} (hB : hBr P) : ∀ t, t < gN P → ∀ z, z < flF P t → gL P z < gL P t := by
  intro t
  induction t with
  | zero => intro _ z hz; rw [flF] at hz; omega
  | succ t ih =>
    intro ht z hz
    rw [flF] at hz
    by_cases e : Nat.beq (gL P t) (gL P (t + 1)) = true
    · rw [if_pos e] at hz
      rw [← beq_eq e]
      exact ih (by omega) z hz
    · rw [if_neg e] at hz
      have h1 : gL P t ≠ gL P (t + 1) := fun q => e (by rw [q]; exact Nat.beq_refl _)
      have h2 : gL P t ≤ gL P (t + 1) := by
        apply Classical.byContradiction
        intro q
        have := hB.1 (t + 1) t ht (by omega) (by omega)
        omega
      have h3 : gL P z ≤ gL P t := by
        apply Classical.byContradiction
        intro q
        have := hB.1 t z (by omega) (by omega) (by omega)
        omega
      omega
theorem mtF_run {P : GD} {x y sd t : Nat} (ht : (gWk P t x sd && gWk P t y sd) = true ∨ t = 0) (hlt : ∀ z, z < t → (gWk P z x sd && gWk P z y sd) = true → gL P z < gL P t) (h0 : 0 < t → gL P 0 < gL P t) : ∀ k z b, (b = t ∧ t < z) ∨ (z ≤ t ∧ (b = 0 ∨ (b < z ∧ (gWk P b x sd && gWk P b y sd) = true))) → t < z + k ∨ b = t → (∀ q, t < q → q < z + k → (gWk P q x sd && gWk P q y sd) = false) → (t = 0 → gL P 0 = 0) → mtF P x y sd k z b = t := by
  intro k
  induction k with
  | zero =>
    intro z b h h1 _ _
    rw [mtF]
    rcases h1 with h1 | h1
    · rcases h with h | h
      · exact h.1
      · omega
    · exact h1
  | succ k ih =>
    intro z b h h1 h2 hz0
    rw [mtF]
    rcases h with h | h
    · rw [h2 z (by omega) (by omega), Bool.false_and, if_neg (by decide)]
      exact ih (z + 1) b (Or.inl ⟨h.1, by omega⟩) (Or.inr h.1) (fun q a1 a2 => h2 q a1 (by omega)) hz0
    · by_cases ez : z = t
      · subst ez
        have hbz : 0 < z → gL P b < gL P z := by
          intro hp
          rcases h.2 with e | e
          · rw [e]; exact h0 hp
          · exact hlt b e.1 e.2
        by_cases hp : 0 < z
        · have hw : (gWk P z x sd && gWk P z y sd) = true := ht.elim id (fun e => by omega)
          rw [hw, decide_eq_true (hbz hp), Bool.true_and, if_pos rfl]
          exact ih (z + 1) z (Or.inl ⟨rfl, by omega⟩) (Or.inr rfl) (fun q a1 a2 => h2 q a1 (by omega)) hz0
        · have e0 : z = 0 := by omega
          have eb : b = 0 := h.2.elim id (fun e => by omega)
          subst e0
          subst eb
          rw [decide_eq_false (by omega), Bool.and_false, if_neg (by decide)]
          exact ih _ _ (Or.inl ⟨rfl, by omega⟩) (Or.inr rfl) (fun q a1 a2 => h2 q a1 (by omega)) hz0
      · have hz : z < t := by omega
        by_cases hc : (gWk P z x sd && gWk P z y sd && decide (gL P b < gL P z)) = true
        · rw [if_pos hc]
          have hw : (gWk P z x sd && gWk P z y sd) = true := (and2 hc).1
          exact ih (z + 1) z (Or.inr ⟨by omega, Or.inr ⟨by omega, hw⟩⟩) (Or.inl (by omega)) (fun q a1 a2 => h2 q a1 (by omega)) hz0
        · rw [if_neg hc]
          refine ih (z + 1) b (Or.inr ⟨by omega, ?_⟩) (Or.inl (by omega)) (fun q a1 a2 => h2 q a1 (by omega)) hz0
          rcases h.2 with e | e
          · exact Or.inl e
          · exact Or.inr ⟨by omega, e.2⟩
theorem meetF_run {P : GD} {x y sd t : Nat} (ht : (gWk P t x sd && gWk P t y sd) = true ∨ t = 0) : ∀ z, t ≤ z → (∀ q, t < q → q ≤ z → (gWk P q x sd && gWk P q y sd) = false) → meetF P x y sd z = t := by
  intro z
  induction z with
  | zero => intro h _; rw [meetF]; omega
  | succ z ih =>
    intro h h2
    rw [meetF]
    by_cases e : t = z + 1
    · rcases ht with ht | ht
      · rw [e] at ht; rw [if_pos ht, e]
      · omega
    · rw [h2 (z + 1) (by omega) (by omega), if_neg (by decide)]
      exact ih (by omega) (fun q a b => h2 q a (by omega))
theorem joinF_jn {P : GD} (hB : hBr P) (htop : ∀ z, z < gN P - 1 → gL P z < gL P (gN P - 1)) {x y sd : Nat} (hN : 0 < gN P) : ∀ k z, z + k = gN P - 1 → (∀ b, (b = gN P - 1) → jnF P x y sd (k + 1) z b = joinF P x y sd k z) := by
  have stay : ∀ k z b, b < z → z + k ≤ gN P → b < gN P → jnF P x y sd k z b = b := by
    intro k
    induction k with
    | zero => intro z b _ _ _; rfl
    | succ k ih =>
      intro z b hb hz hbN
      rw [jnF]
      have : ¬ gL P z < gL P b := fun q => by have := hB.1 z b (by omega) hbN q; omega
      rw [decide_eq_false this, Bool.and_false, if_neg (by decide)]
      exact ih (z + 1) b (by omega) (by omega) hbN
  intro k
  induction k with
  | zero =>
    intro z hz b hb
    rw [joinF, jnF, jnF]
    split <;> omega
  | succ k ih =>
    intro z hz b hb
    rw [joinF, pJo, jnF]
    by_cases hc : (gWk P x z sd && gWk P y z sd) = true
    · rw [hc, hb, decide_eq_true (htop z (by omega)), Bool.true_and, if_pos rfl, if_pos rfl]
      exact stay _ _ _ (by omega) (by omega) (by omega)
    · have hc' : (gWk P x z sd && gWk P y z sd) = false := by simpa using hc
      rw [hc', Bool.false_and, if_neg (by decide), if_neg (by decide)]
      exact ih (z + 1) (by omega) b hb
theorem kMe_ok {P : GD} (hN : 0 < gN P) (h60 : gN P ≤ 60) (hC : GC P) (hB : hBr P) (h : kMe P = true) : hLa P := by
  obtain ⟨h1, h2⟩ := and2 h
  have hL0 := hC.2.1.1
  have htop : ∀ z, z < gN P - 1 → gL P z < gL P (gN P - 1) := fun z hz => blt_lt (allB_at h1 z hz)
  intro x y sd hx hy hsd
  refine ⟨?_, ?_⟩
  · obtain ⟨l, k1, k2, k3⟩ := mkLK_ok _ _ (allB_at h2 sd hsd)
    have k4 := lsA_at (lsA_at k1 _ (k2 x hx)) _ (k2 y hy)
    rw [kM1, frc_eq, frc_eq] at k4
    have hbit : ∀ z, (bitsU (pWm P x sd) (gN P) &&& bitsU (pWm P y sd) (gN P)).testBit z = true ↔ z < gN P ∧ (gWk P z x sd && gWk P z y sd) = true := by
      intro z
      rw [Nat.testBit_and, bitsU_bit, bitsU_bit, pWm, pWm]
      by_cases hz : z < gN P
      · simp [hz]
      · simp [hz]
    generalize bitsU (pWm P x sd) (gN P) &&& bitsU (pWm P y sd) (gN P) = m at *
    have hmt : m = 0 ∨ m.testBit (Nat.log2 m) = true := by
      rcases Nat.eq_zero_or_pos m with e | e
      · exact Or.inl e
      · exact Or.inr (Nat.testBit_log2 (by omega))
    have ht : (gWk P (Nat.log2 m) x sd && gWk P (Nat.log2 m) y sd) = true ∨ Nat.log2 m = 0 := by
      rcases hmt with e | e
      · right; rw [e]; rfl
      · left; exact ((hbit _).mp e).2
    have htN : Nat.log2 m < gN P := by
      rcases hmt with e | e
      · rw [e]; exact hN
      · exact ((hbit _).mp e).1
    have hgt : ∀ q, Nat.log2 m < q → q < gN P → (gWk P q x sd && gWk P q y sd) = false := by
      intro q h3 h4
      cases hq : (gWk P q x sd && gWk P q y sd) with
      | false => rfl
      | true =>
        have := (hbit q).mpr ⟨h4, hq⟩
        rw [Nat.testBit_lt_two_pow (Nat.lt_of_lt_of_le Nat.lt_log2_self (Nat.pow_le_pow_right (by decide) h3))] at this
        exact absurd this (by decide)
    have hlt : ∀ z, z < Nat.log2 m → (gWk P z x sd && gWk P z y sd) = true → gL P z < gL P (Nat.log2 m) := by
      intro z h3 h4
      have hb := (hbit z).mpr ⟨by omega, h4⟩
      by_cases hf : z < flF P (Nat.log2 m)
      · exact flF_lt hB _ htN z hf
      · have := beq_eq k4
        have e2 : ((m >>> flF P (Nat.log2 m)) % 2 ^ (Nat.log2 m - flF P (Nat.log2 m))).testBit (z - flF P (Nat.log2 m)) = true := by
          rw [Nat.testBit_mod_two_pow, Nat.testBit_shiftRight, show flF P (Nat.log2 m) + (z - flF P (Nat.log2 m)) = z by omega, hb, decide_eq_true (by omega)]; rfl
        rw [this] at e2
        simp at e2
    have h0 : 0 < Nat.log2 m → gL P 0 < gL P (Nat.log2 m) := by
      intro hp
      have h5 := (hC.2.1.2 _ hp htN).1
      omega
    rw [mtF_run ht hlt h0 (gN P) 0 0 (Or.inr ⟨by omega, Or.inl rfl⟩) (Or.inl (by omega)) (fun q a b => hgt q a (by omega)) (fun _ => hL0), meetF_run ht (gN P - 1) (by omega) (fun q a b => hgt q a (by omega))]
  · have := joinF_jn hB htop (x := x) (y := y) (sd := sd) hN (gN P - 1) 0 (by omega) (gN P - 1) rfl
    rw [show gN P - 1 + 1 = gN P by omega] at this
    exact this
