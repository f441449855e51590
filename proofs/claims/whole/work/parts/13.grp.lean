/-! A GROUP's tables: P k i: place i of table k (as the fields of Elements); what EL says of the memory -/
abbrev GD : Type := Nat → Nat → Nat
def gR (P : GD) : Nat := P 13 0
def gN (P : GD) : Nat := P 14 0
def gM (P : GD) : Nat := P 15 0
def gB (P : GD) (s t : Nat) : Nat := P 0 (s * 5 + t)
def gL (P : GD) (x : Nat) : Nat := P 1 x
def gH (P : GD) (x : Nat) : Nat := P 2 x
def gA (P : GD) (x : Nat) : Nat := P 3 x
def gS (P : GD) (x s : Nat) : Nat := P 4 (x * 5 + s)
def gX (P : GD) (x y : Nat) : Nat := P 5 (x * 60 + y)
def gI (P : GD) (x : Nat) : Nat := P 6 x
def gF (P : GD) (x : Nat) : Nat := P 7 x
def gE (P : GD) (x : Nat) : Nat := P 8 x
def gT (P : GD) (i : Nat) : Nat := P 9 i
def gO (P : GD) (x : Nat) : Nat := P 10 x
def gW (P : GD) (x : Nat) : Nat := P 11 x
def gD (P : GD) (x : Nat) : Nat := P 12 x
def EL (c : Nat → Nat → Int) (e : Nat) (P : GD) : Prop :=
  (c e 13 = (gR P : Int) ∧ c e 14 = (gN P : Int) ∧ c e 15 = (gM P : Int)) ∧
  (∀ s t, s < gR P → t < gR P → s ≠ t → c (e + 1) (s * 5 + t) = (gB P s t : Int)) ∧
  (∀ x, x < gN P → c (e + 2) x = (gL P x : Int) ∧ c (e + 3) x = (gH P x : Int) ∧ c (e + 4) x = (gA P x : Int) ∧ c (e + 7) x = (gI P x : Int) ∧ c (e + 8) x = (gF P x : Int) ∧ c (e + 9) x = (gE P x : Int) ∧ c (e + 11) x = (gO P x : Int) ∧ c (e + 12) x = (gW P x : Int) ∧ c (e + 13) x = (gD P x : Int)) ∧
  (∀ x s, x < gN P → s < gR P → c (e + 5) (x * 5 + s) = (gS P x s : Int)) ∧
  (∀ x y, x < gN P → y < gN P → c (e + 6) (x * 60 + y) = (gX P x y : Int)) ∧
  (∀ i, i < gM P → c (e + 10) i = (gT P i : Int))
def GV (P : GD) : Prop :=
  (gN P ≤ 60 ∧ gR P ≤ 5 ∧ gM P ≤ 60 ∧ (gN P = 0 ↔ gR P = 0)) ∧
  (∀ s t, s < gR P → t < gR P → gB P s t ≤ 12) ∧
  (∀ x, x < gN P → gL P x ≤ 13 ∧ gH P x < gN P ∧ gA P x < gR P ∧ gI P x < gN P ∧ gF P x < 32 ∧ gE P x < 32 ∧ gO P x ≤ 5 ∧ gW P x ≤ 240 ∧ gD P x < 2 ^ 60) ∧
  (∀ x s, x < gN P → s < gR P → gS P x s < gN P) ∧
  (∀ x y, x < gN P → y < gN P → gX P x y < gN P) ∧
  (∀ i, i < gM P → gT P i < gN P)
section EG
variable {c : Nat → Nat → Int} {e : Nat} {P : GD}
theorem EL_R (h : EL c e P) : c e 13 = (gR P : Int) := h.1.1
theorem EL_N (h : EL c e P) : c e 14 = (gN P : Int) := h.1.2.1
theorem EL_M (h : EL c e P) : c e 15 = (gM P : Int) := h.1.2.2
theorem EL_L (h : EL c e P) {x : Nat} (hx : x < gN P) : c (e + 2) x = (gL P x : Int) := (h.2.2.1 x hx).1
theorem EL_H (h : EL c e P) {x : Nat} (hx : x < gN P) : c (e + 3) x = (gH P x : Int) := (h.2.2.1 x hx).2.1
theorem EL_A (h : EL c e P) {x : Nat} (hx : x < gN P) : c (e + 4) x = (gA P x : Int) := (h.2.2.1 x hx).2.2.1
theorem EL_I (h : EL c e P) {x : Nat} (hx : x < gN P) : c (e + 7) x = (gI P x : Int) := (h.2.2.1 x hx).2.2.2.1
theorem EL_F (h : EL c e P) {x : Nat} (hx : x < gN P) : c (e + 8) x = (gF P x : Int) := (h.2.2.1 x hx).2.2.2.2.1
theorem EL_E (h : EL c e P) {x : Nat} (hx : x < gN P) : c (e + 9) x = (gE P x : Int) := (h.2.2.1 x hx).2.2.2.2.2.1
theorem EL_O (h : EL c e P) {x : Nat} (hx : x < gN P) : c (e + 11) x = (gO P x : Int) := (h.2.2.1 x hx).2.2.2.2.2.2.1
theorem EL_W (h : EL c e P) {x : Nat} (hx : x < gN P) : c (e + 12) x = (gW P x : Int) := (h.2.2.1 x hx).2.2.2.2.2.2.2.1
theorem EL_D (h : EL c e P) {x : Nat} (hx : x < gN P) : c (e + 13) x = (gD P x : Int) := (h.2.2.1 x hx).2.2.2.2.2.2.2.2
theorem EL_T (h : EL c e P) {i : Nat} (hi : i < gM P) : c (e + 10) i = (gT P i : Int) := h.2.2.2.2.2 i hi
theorem GV_N (hV : GV P) : gN P ≤ 60 := hV.1.1
theorem GV_R (hV : GV P) : gR P ≤ 5 := hV.1.2.1
theorem GV_lt (hV : GV P) {x : Nat} (hx : x < gN P) : x < 60 := Nat.lt_of_lt_of_le hx hV.1.1
theorem GV_ltM (hV : GV P) {x : Nat} (hx : x < gM P) : x < 60 := Nat.lt_of_lt_of_le hx hV.1.2.2.1
theorem EL_up (h : EL c e P) {i k : Nat} {z : Int} (he : e = 21 ∨ e = 35) (hi : i < 21 ∨ 48 < i) : EL (up2 c i k z) e P := by
  have o : ∀ q, q ≤ 13 → ∀ k', up2 c i k z (e + q) k' = c (e + q) k' := fun q hq k' => up2_ne (Or.inl (by omega))
  obtain ⟨⟨h1, h2, h3⟩, h4, h5, h6, h7, h8⟩ := h
  refine ⟨⟨(o 0 (by omega) _).trans h1, (o 0 (by omega) _).trans h2, (o 0 (by omega) _).trans h3⟩, fun s t hs ht hn => (o 1 (by omega) _).trans (h4 s t hs ht hn), fun x hx => ?_, fun x s hx hs => (o 5 (by omega) _).trans (h6 x s hx hs), fun x y hx hy => (o 6 (by omega) _).trans (h7 x y hx hy), fun i hi => (o 10 (by omega) _).trans (h8 i hi)⟩
  obtain ⟨a1, a2, a3, a4, a5, a6, a7, a8, a9⟩ := h5 x hx
  exact ⟨(o 2 (by omega) _).trans a1, (o 3 (by omega) _).trans a2, (o 4 (by omega) _).trans a3, (o 7 (by omega) _).trans a4, (o 8 (by omega) _).trans a5, (o 9 (by omega) _).trans a6, (o 11 (by omega) _).trans a7, (o 12 (by omega) _).trans a8, (o 13 (by omega) _).trans a9⟩
theorem EL_same (h : EL c e P) {c2 : Nat → Nat → Int} (hs : ∀ q, q ≤ 13 → c2 (e + q) = c (e + q)) : EL c2 e P := by
  obtain ⟨⟨h1, h2, h3⟩, h4, h5, h6, h7, h8⟩ := h
  have e0 : c2 e = c e := hs 0 (by omega)
  refine ⟨⟨by rw [e0]; exact h1, by rw [e0]; exact h2, by rw [e0]; exact h3⟩, fun s t hs' ht hn => by rw [hs 1 (by omega)]; exact h4 s t hs' ht hn, fun x hx => ?_, fun x s hx hs' => by rw [hs 5 (by omega)]; exact h6 x s hx hs', fun x y hx hy => by rw [hs 6 (by omega)]; exact h7 x y hx hy, fun i hi => by rw [hs 10 (by omega)]; exact h8 i hi⟩
  rw [hs 2 (by omega), hs 3 (by omega), hs 4 (by omega), hs 7 (by omega), hs 8 (by omega), hs 9 (by omega), hs 11 (by omega), hs 12 (by omega), hs 13 (by omega)]
  exact h5 x hx
end EG
/-- locals that are no more needed are forgotten -/
def mask : List Bool → List (Option AV) → List (Option AV)
  | true :: bs, x :: l => x :: mask bs l
  | false :: bs, _ :: l => none :: mask bs l
  | _, _ => []
theorem mask_get : ∀ (bs : List Bool) (lo : List (Option AV)) (i : Nat) (v : AV), (mask bs lo)[i]? = some (some v) → lo[i]? = some (some v) := by
  intro bs
  induction bs with
  | nil => intro lo i v h; simp [mask] at h
  | cons b bs ih =>
    intro lo i v h
    cases lo with
    | nil => cases b <;> simp [mask] at h
    | cons x l =>
      cases b with
      | true =>
        cases i with
        | zero => simpa [mask] using h
        | succ i => simpa using ih l i v (by simpa [mask] using h)
      | false =>
        cases i with
        | zero => simp [mask] at h
        | succ i => simpa using ih l i v (by simpa [mask] using h)
theorem sw_mask {G : GG} {j : Nat} {me : Mth} {pc : Nat} {lo : List (Option AV)} {st : List AV} {M : AM} {B : BB} {post : Option AV → AM → Prop} {bs : List Bool} (K : SW G j me pc (mask bs lo) st M B post) : SW G j me pc lo st M B post :=
  fun p e R s m args below meth c b fa fv cy D H locs ls Q C hH hL hE => K p e R s m args below meth c b fa fv cy D H locs ls Q C hH ⟨hL.1, hL.2.1, fun i v h => hL.2.2 i v (mask_get bs lo i v h)⟩ hE
/-- a set of bits, built bit by bit -/
def bitsU (p : Nat → Bool) : Nat → Nat
  | 0 => 0
  | n + 1 => if p n then bitsU p n ||| 1 * 2 ^ n else bitsU p n
theorem bitsU_lt (p : Nat → Bool) : ∀ n, bitsU p n < 2 ^ n := by
  intro n
  induction n with
  | zero => exact Nat.zero_lt_one
  | succ n ih =>
    have h1 : 2 ^ n < 2 ^ (n + 1) := Nat.pow_lt_pow_right (by decide) (Nat.lt_succ_self n)
    unfold bitsU
    split
    · exact Nat.or_lt_two_pow (by omega) (by omega)
    · omega
theorem bitsU_bit (p : Nat → Bool) : ∀ n i, (bitsU p n).testBit i = (decide (i < n) && p i) := by
  intro n
  induction n with
  | zero => intro i; simp [bitsU]
  | succ n ih =>
    intro i
    unfold bitsU
    by_cases hi : i = n
    · subst hi
      split
      · rename_i h
        simp [Nat.testBit_or, ih, h, Nat.testBit_two_pow_self]
      · rename_i h
        simp [ih, h]
    · have h2 : decide (i < n + 1) = decide (i < n) := by
        congr 1
        exact propext ⟨fun h => by omega, fun h => by omega⟩
      split
      · rw [Nat.testBit_or, ih, h2, Nat.one_mul, Nat.testBit_two_pow_of_ne (Ne.symm hi), Bool.or_false]
      · rw [ih, h2]
def cntU (p : Nat → Bool) : Nat → Nat
  | 0 => 0
  | n + 1 => if p n then cntU p n + 1 else cntU p n
theorem cntU_le (p : Nat → Bool) : ∀ n, cntU p n ≤ n := by
  intro n
  induction n with
  | zero => exact Nat.le_refl 0
  | succ n ih => unfold cntU; split <;> omega
theorem lt63 {s : Nat} (h : s < 2 ^ 60) : s < 9223372036854775808 := Nat.lt_of_lt_of_le h (by decide)
theorem bitsU_63 {p : Nat → Bool} {n : Nat} (h : n ≤ 60) : bitsU p n < 2 ^ 60 := Nat.lt_of_lt_of_le (bitsU_lt p n) (Nat.pow_le_pow_right (by decide) h)

