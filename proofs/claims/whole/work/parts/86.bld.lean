/-! the tables of R are made by a program; nothing is asked of it but that what it makes passes -/
def stP (P : GD) (s h x : Nat) : Nat := if (gE P x).testBit s then pz h (gS P x s) else ((pz h x <<< 8) % 2 ^ 112 + 64) + ((pz h (gS P x s) <<< 8) % 2 ^ 112 + 64) - pz h x
def colS (P : GD) (s h : Nat) (K : Nat → Bool) : Nat → Nat → Bool
  | 0, a => K a
  | x + 1, a => frc (a + (stP P s h x) <<< (112 * x)) (fun a2 => colS P s h K x a2)
def colB (K : Nat → Bool) : Nat → Nat → Bool
  | 0, a => K a
  | x + 1, a => frc (a + (if Nat.beq x 0 then zro + 1 else zro) <<< (112 * x)) (fun a2 => colB K x a2)
def bldR (P : GD) (K : List Nat → Bool) : Nat → Nat → List Nat → Bool
  | 0, _, l => K l
  | f + 1, w, l => if Nat.beq w 0 then colB (fun c => bldR P K f (w + 1) (c :: l)) (gN P) 0 else frc (l.getD (w - 1 - gH P w) 0) (fun h => frc (gA P w) (fun s => colS P s h (fun c => bldR P K f (w + 1) (c :: l)) (gN P) 0))
theorem colS_ex {P : GD} {s h : Nat} {K : Nat → Bool} : ∀ x a, colS P s h K x a = true → ∃ c, K c = true := by
  intro x
  induction x with
  | zero => intro a h; exact ⟨a, h⟩
  | succ x ih => intro a h; rw [colS, frc_eq] at h; exact ih _ h
theorem colB_ex {K : Nat → Bool} : ∀ x a, colB K x a = true → ∃ c, K c = true := by
  intro x
  induction x with
  | zero => intro a h; exact ⟨a, h⟩
  | succ x ih => intro a h; rw [colB, frc_eq] at h; exact ih _ h
theorem bldR_ex {P : GD} {K : List Nat → Bool} : ∀ f w l, bldR P K f w l = true → ∃ l2, K l2 = true := by
  intro f
  induction f with
  | zero => intro w l h; exact ⟨l, h⟩
  | succ f ih =>
    intro w l h
    rw [bldR] at h
    split at h
    · obtain ⟨c, hc⟩ := colB_ex _ _ h
      exact ih _ _ hc
    · rw [frc_eq, frc_eq] at h
      obtain ⟨c, hc⟩ := colS_ex _ _ h
      exact ih _ _ hc
