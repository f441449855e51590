/-- P: number 0 by what is below; numbers 1 and 2 packed -/
def tB (P : GD) (TT v w k : Nat) : Nat := if Nat.beq k 0 then (if (gD P w).testBit v then 1 else 0) else if Nat.blt k 3 then (TT >>> ((v * 60 + w) * 2 + (k - 1))) % 2 else 0
def tT (P : GD) (TT : Nat) : PT := fun v w k => ((tB P TT v w k : Nat) : Int)
theorem tB_lt (P : GD) (TT v w k : Nat) : tB P TT v w k < 2 := by
  rw [tB]
  split
  · split <;> decide
  · split
    · exact Nat.mod_lt _ (by decide)
    · decide
theorem tB_3 (P : GD) (TT v w : Nat) {k : Nat} (hk : 3 ≤ k) : tB P TT v w k = 0 := by
  have h1 : ¬ Nat.beq k 0 = true := fun z => by have := beq_eq z; omega
  have h2 : ¬ Nat.blt k 3 = true := fun z => by have := blt_lt z; omega
  rw [tB, if_neg h1, if_neg h2]
-- the sum, in natural numbers: a: of lanes, b: how many
def inA (P : GD) (TT r x w k : Nat) : Nat → Nat → Nat → Nat
  | 0, _, a => a
  | f + 1, i, a => inA P TT r x w k f (i + 1) (a + pl r i * tB P TT x w (k - i))
def inB (P : GD) (TT x w k : Nat) : Nat → Nat → Nat → Nat
  | 0, _, b => b
  | f + 1, i, b => inB P TT x w k f (i + 1) (b + tB P TT x w (k - i))
def kSm (P : GD) (TT : Nat) (l : List Nat) (dw v w k : Nat) : Nat → Nat → Nat → Nat → Bool
  | 0, _, a, b => Nat.beq (a + tB P TT v w k) (64 * b)
  | f + 1, x, a, b => if dw.testBit x then (if (gD P x).testBit v then frc (pz (l.getD (gN P - 1 - x) 0) v) (fun r => frc (inA P TT r x w k (k + 1) 0 a) (fun a2 => frc (inB P TT x w k (k + 1) 0 b) (fun b2 => kSm P TT l dw v w k f (x + 1) a2 b2))) else kSm P TT l dw v w k f (x + 1) a b) else kSm P TT l dw v w k f (x + 1) a b
def kPv (P : GD) (TT : Nat) (l : List Nat) (dw w v : Nat) : Bool :=
  if Nat.beq v w then (Nat.beq (tB P TT v w 1) 0 && Nat.beq (tB P TT v w 2) 0)
  else if dw.testBit v then (Nat.blt (gL P v) (gL P w) && (Nat.blt v w && frc ((gL P w - gL P v - 1) / 2) (fun mo => allB (fun k => if Nat.ble k mo then kSm P TT l dw v w k (w - v) (v + 1) 0 0 else Nat.beq (tB P TT v w k) 0) 8)))
  else (Nat.beq (tB P TT v w 1) 0 && Nat.beq (tB P TT v w 2) 0)
def kPp (P : GD) (TT : Nat) (l : List Nat) : Bool := allB (fun w => frc (gD P w) (fun dw => allB (fun v => kPv P TT l dw w v) (gN P))) (gN P)
theorem inA_eq {P : GD} {TT r v x w k : Nat} {l : List Nat} (hr : r = pz (l.getD (gN P - 1 - x) 0) v) : ∀ (f i a b : Nat) (z : Int), z = (a : Int) - 64 * (b : Int) → (∀ q, q < i + f → q < 14 → rF P v x q = RTv l (gN P) v x q) → i + f ≤ 14 → psI P (tT P TT) v w k x f i z = ((inA P TT r x w k f i a : Nat) : Int) - 64 * ((inB P TT x w k f i b : Nat) : Int) := by
  intro f
  induction f with
  | zero => intro i a b z hz _ _; exact hz
  | succ f ih =>
    intro i a b z hz hR hi
    rw [psI, inA, inB]
    refine ih (i + 1) _ _ _ ?_ (fun q h1 h2 => hR q (by omega) h2) (by omega)
    rw [hR i (by omega) (by omega), RTv, ← hr, hz, tT]
    have hm : ((pl r i * tB P TT x w (k - i) : Nat) : Int) = (pl r i : Int) * (tB P TT x w (k - i) : Int) := by simp
    rw [Int.sub_mul]
    omega
theorem kSm_eq {P : GD} {TT v w k : Nat} {l : List Nat} (hk : k < 14) (hv : v < gN P) (hw : w < gN P) (hR : ∀ v w k, v < gN P → w < gN P → k < 14 → rF P v w k = RTv l (gN P) v w k) : ∀ (f x a b : Nat) (z : Int), z = (a : Int) - 64 * (b : Int) → x + f = w + 1 → kSm P TT l (gD P w) v w k f x a b = true → tT P TT v w k = -(psX P (tT P TT) v w k f x z) := by
  intro f
  induction f with
  | zero =>
    intro x a b z hz _ h
    rw [kSm] at h
    have := beq_eq h
    rw [psX, hz, tT]
    omega
  | succ f ih =>
    intro x a b z hz hx h
    rw [kSm] at h
    rw [psX]
    by_cases h1 : (gD P w).testBit x = true
    · rw [if_pos h1] at h
      by_cases h2 : (gD P x).testBit v = true
      · rw [if_pos h2, frc_eq, frc_eq, frc_eq] at h
        rw [h1, h2, Bool.and_self, if_pos rfl]
        exact ih _ _ _ _ (inA_eq rfl (k + 1) 0 a b z hz (fun q h3 h4 => hR v x q hv (by omega) h4) (by omega)) (by omega) h
      · rw [if_neg h2] at h
        have : ¬ (((gD P x).testBit v && (gD P w).testBit x) = true) := fun q => h2 (and2 q).1
        rw [if_neg this]
        exact ih _ _ _ _ hz (by omega) h
    · rw [if_neg h1] at h
      have : ¬ (((gD P x).testBit v && (gD P w).testBit x) = true) := fun q => h1 (and2 q).2
      rw [if_neg this]
      exact ih _ _ _ _ hz (by omega) h
theorem tB_zero {P : GD} {TT v w : Nat} (h : (Nat.beq (tB P TT v w 1) 0 && Nat.beq (tB P TT v w 2) 0) = true) : ∀ k, 1 ≤ k → tB P TT v w k = 0 := by
  intro k hk
  obtain ⟨h1, h2⟩ := and2 h
  have : k = 1 ∨ k = 2 ∨ 3 ≤ k := by omega
  rcases this with e | e | e
  · rw [e]; exact beq_eq h1
  · rw [e]; exact beq_eq h2
  · exact tB_3 P TT v w e
theorem tB_0 (P : GD) (TT v w : Nat) : tB P TT v w 0 = if (gD P w).testBit v then 1 else 0 := by rw [tB, if_pos (by rfl)]
theorem kPp_ok {P : GD} {TT : Nat} {l : List Nat} (hBt : hBt P) (hV : GV P) (hR : ∀ v w k, v < gN P → w < gN P → k < 14 → rF P v w k = RTv l (gN P) v w k) (h : kPp P TT l = true) : hPp P (tT P TT) ∧ hP0 P (tT P TT) := by
  refine ⟨fun v w hv hw => ?_, fun v w hv hw hb => by rw [tT, tB_0, if_pos hb]; rfl⟩
  have q := allB_at h w hw
  rw [frc_eq] at q
  have q := allB_at q v hv
  rw [kPv] at q
  refine ⟨fun k hk e => ?_, fun k hk e hb => ?_, fun e hb => ?_, fun k hk e hb => ?_⟩
  · subst e
    rw [if_pos (Nat.beq_refl v)] at q
    by_cases h0 : k = 0
    · rw [if_pos h0, h0, tT, tB_0, if_pos (hBt.1 v hv)]; rfl
    · rw [if_neg h0, tT, tB_zero q k (by omega)]; rfl
  · have : ¬ Nat.beq v w = true := fun z => e (beq_eq z)
    rw [if_neg this, if_neg (by rw [hb]; decide)] at q
    by_cases h0 : k = 0
    · rw [h0, tT, tB_0, if_neg (by rw [hb]; decide)]; rfl
    · rw [tT, tB_zero q k (by omega)]; rfl
  · have : ¬ Nat.beq v w = true := fun z => e (beq_eq z)
    rw [if_neg this, if_pos hb] at q
    obtain ⟨q1, q⟩ := and2 q
    exact ⟨blt_lt q1, blt_lt (and2 q).1⟩
  · have : ¬ Nat.beq v w = true := fun z => e (beq_eq z)
    rw [if_neg this, if_pos hb] at q
    obtain ⟨q1, q⟩ := and2 q
    obtain ⟨q2, q⟩ := and2 q
    rw [frc_eq] at q
    have q := allB_at q k hk
    by_cases hm : k ≤ (gL P w - gL P v - 1) / 2
    · rw [if_pos (Nat.ble_eq_true_of_le hm)] at q
      rw [if_pos hm]
      have := blt_lt q2
      exact kSm_eq (by omega) hv hw hR (w - v) (v + 1) 0 0 0 (by decide) (by omega) q
    · have : ¬ Nat.ble k ((gL P w - gL P v - 1) / 2) = true := fun z => hm (ble_le z)
      rw [if_neg this] at q
      rw [if_neg hm, tT, beq_eq q]; rfl
