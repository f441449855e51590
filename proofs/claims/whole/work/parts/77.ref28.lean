def hSi (P : GD) : Prop := ∀ x s, x < gN P → s < gR P → gS P (gS P x s) s = x
def hkS (P : GD) (s : Nat) (A : Nat → Nat → Int) : Nat → Nat → Int := fun x k => if (gE P x).testBit s then A (gS P x s) k + (if k = 0 then 0 else A x (k - 1)) - A x k else (if k = 0 then 0 else A (gS P x s) (k - 1))
def hkA (P : GD) (v w : Nat) : Nat → Nat → Nat → Int
  | 0 => fun x k => if x = v ∧ k = 0 then 1 else 0
  | i + 1 => hkS P (gLet P w i) (hkA P v w i)
theorem hkS_deg {P : GD} {s i : Nat} {A : Nat → Nat → Int} (h : ∀ x k, i < k → A x k = 0) : ∀ x k, i + 1 < k → hkS P s A x k = 0 := by
  intro x k hk
  rw [hkS]
  split
  · rw [h _ k (by omega), h _ k (by omega), if_neg (by omega), h _ _ (by omega)]; rfl
  · rw [if_neg (by omega), h _ _ (by omega)]
theorem hkA_deg {P : GD} {v w : Nat} : ∀ i x k, i < k → hkA P v w i x k = 0 := by
  intro i
  induction i with
  | zero => intro x k hk; rw [hkA]; show (if _ then _ else _) = (_ : Int); rw [if_neg (by omega)]
  | succ i ih => exact hkS_deg ih
theorem hkS_bd {P : GD} {s : Nat} {A : Nat → Nat → Int} {B : Int} (hB : 0 ≤ B) (h : ∀ x k, -B ≤ A x k ∧ A x k ≤ B) : ∀ x k, -(3 * B) ≤ hkS P s A x k ∧ hkS P s A x k ≤ 3 * B := by
  intro x k
  rw [hkS]
  have a1 := h (gS P x s) k
  have a2 := h x (k - 1)
  have a3 := h x k
  have a4 := h (gS P x s) (k - 1)
  split
  · split <;> omega
  · split <;> omega
theorem hkA_bd {P : GD} {v w : Nat} : ∀ i x k, -((3 ^ i : Nat) : Int) ≤ hkA P v w i x k ∧ hkA P v w i x k ≤ ((3 ^ i : Nat) : Int) := by
  intro i
  induction i with
  | zero => intro x k; rw [hkA]; by_cases e : x = v ∧ k = 0 <;> simp [e]
  | succ i ih =>
    intro x k
    have := hkS_bd (P := P) (s := gLet P w i) (B := ((3 ^ i : Nat) : Int)) (Int.natCast_nonneg _) ih x k
    rw [hkA, Nat.pow_succ]
    omega
theorem hkA_rng {P : GD} {v w i : Nat} (hi : i ≤ 13) (x k : Nat) : -9223372036854775808 ≤ hkA P v w i x k ∧ hkA P v w i x k < 9223372036854775808 := by
  have h := hkA_bd (P := P) (v := v) (w := w) i x k
  have h2 : 3 ^ i ≤ 3 ^ 13 := Nat.pow_le_pow_right (by decide) hi
  have h3 : (3 : Nat) ^ 13 = 1594323 := by decide
  omega
-- the class
theorem spF_at {l h : Nat} (hd : l + 16 ≤ h ∨ h + 16 ≤ l) : ∀ n, n ≤ 16 → ∀ (f : Nat → Int) q, spF l h f n q = if l ≤ q ∧ q < l + n then (if q = l then 0 else f (h + (q - l) - 1)) else if h ≤ q ∧ q < h + n then f (l + (q - h)) + (if q = h then 0 else f (q - 1)) - f q else f q := by
  intro n
  induction n with
  | zero => intro _ f q; rw [spF, if_neg (by omega), if_neg (by omega)]
  | succ n ih =>
    intro hn f q
    rw [spF, ih (by omega)]
    by_cases h1 : l ≤ q ∧ q < l + n
    · rw [if_pos h1, if_pos (show l ≤ q ∧ q < l + (n + 1) by omega)]
      split
      · rfl
      · rw [u1_ne (by omega), u1_ne (by omega)]
    · rw [if_neg h1]
      by_cases h2 : h ≤ q ∧ q < h + n
      · rw [if_pos h2, if_neg (show ¬ (l ≤ q ∧ q < l + (n + 1)) by omega), if_pos (show h ≤ q ∧ q < h + (n + 1) by omega)]
        rw [u1_ne (show l + (q - h) ≠ l + n by omega), u1_ne (show l + (q - h) ≠ h + n by omega), u1_ne (show q ≠ l + n by omega), u1_ne (show q ≠ h + n by omega)]
        split
        · rfl
        · rw [u1_ne (show q - 1 ≠ l + n by omega), u1_ne (show q - 1 ≠ h + n by omega)]
      · rw [if_neg h2]
        by_cases e1 : q = l + n
        · subst e1
          rw [u1_eq, if_pos (show l ≤ l + n ∧ l + n < l + (n + 1) by omega)]
          by_cases e0 : n = 0
          · subst e0; simp
          · rw [if_neg e0, if_neg (show ¬ l + n = l by omega)]
            congr 1; omega
        · rw [u1_ne e1]
          by_cases e2 : q = h + n
          · subst e2
            rw [u1_eq, if_neg (show ¬ (l ≤ h + n ∧ h + n < l + (n + 1)) by omega), if_pos (show h ≤ h + n ∧ h + n < h + (n + 1) by omega)]
            rw [show h + n - h = n by omega]
            by_cases e0 : n = 0
            · subst e0; simp
            · rw [if_neg e0, if_neg (show ¬ h + n = h by omega)]
          · rw [u1_ne e2, if_neg (show ¬ (l ≤ q ∧ q < l + (n + 1)) by omega), if_neg (show ¬ (h ≤ q ∧ q < h + (n + 1)) by omega)]
def low (P : GD) (s q : Nat) : Nat := if (gE P q).testBit s then gS P q s else q
theorem asc_desc {P : GD} (hC : GC P) (hV : GV P) (hs : hSi P) {x s : Nat} (hx : x < gN P) (h : s < gR P) : (gE P (gS P x s)).testBit s = !(gE P x).testBit s := by
  have h1 := (hC.2.2.2.1 x s hx h).1
  have hS := hV.2.2.2.1 x s hx h
  have h2 := (hC.2.2.2.1 _ s hS h).1
  rw [hs x s hx h] at h2
  have h3 := hC.2.2.2.2.1 x s hx h
  rw [h1, h2]
  by_cases e : gL P (gS P x s) < gL P x
  · rw [decide_eq_true e, decide_eq_false (by omega)]; rfl
  · rw [decide_eq_false e, decide_eq_true (by omega)]; rfl
theorem exX_hk {P : GD} (hC : GC P) (hV : GV P) (hs : hSi P) {s t : Nat} (hsR : s < gR P) (ht : t ≤ 14) {f : Nat → Int} {A : Nat → Nat → Int} (hA : ∀ q k, q < gN P → k < 16 → f (q * 16 + k) = A q k) (hdeg : ∀ q k, t ≤ k → A q k = 0) : ∀ x, x ≤ gN P → ∀ q k, q < gN P → k < 16 → exX spF P s t f x (q * 16 + k) = if low P s q < x then hkS P s A q k else A q k := by
  have h60 := GV_N hV
  intro x
  induction x with
  | zero => intro _ q k hq hk; rw [exX, if_neg (by omega)]; exact hA q k hq hk
  | succ x ih =>
    intro hx q k hq hk
    have ihx := ih (by omega)
    have hS := hV.2.2.2.1 x s (by omega) hsR
    have ad := asc_desc hC hV hs (show x < gN P by omega) hsR
    rw [exX]
    by_cases hb : (gE P x).testBit s = true
    · rw [if_pos hb, ihx q k hq hk]
      have : low P s q ≠ x := by
        intro e
        rw [low] at e
        by_cases hq2 : (gE P q).testBit s = true
        · rw [if_pos hq2] at e
          have ad2 := asc_desc hC hV hs hq hsR
          rw [e, hb, hq2] at ad2
          exact absurd ad2 (by decide)
        · rw [if_neg hq2] at e; rw [e] at hq2; exact hq2 hb
      by_cases h1 : low P s q < x
      · rw [if_pos h1, if_pos (by omega)]
      · rw [if_neg h1, if_neg (by omega)]
    · have hb' : (gE P x).testBit s = false := by simpa using hb
      rw [hb'] at ad
      replace ad : (gE P (gS P x s)).testBit s = true := ad
      have hne : x ≠ gS P x s := fun e => by rw [← e, hb'] at ad; exact absurd ad (by decide)
      have lx : low P s x = x := by rw [low, if_neg hb]
      have ly : low P s (gS P x s) = x := by rw [low, if_pos ad, hs x s (by omega) hsR]
      have hmin : min t 15 + 1 = t + 1 := by omega
      rw [if_neg hb, spF_at (by omega) _ (by omega), hmin]
      by_cases e1 : q = x
      · subst e1
        rw [if_pos (show low P s q < q + 1 by omega)]
        have hk1 : hkS P s A q k = if k = 0 then 0 else A (gS P q s) (k - 1) := by rw [hkS, if_neg hb]
        rw [hk1]
        by_cases h1 : k < t + 1
        · rw [if_pos (by omega)]
          by_cases e0 : k = 0
          · rw [if_pos (by omega), if_pos e0]
          · rw [if_neg (by omega), if_neg e0, show gS P q s * 16 + (q * 16 + k - q * 16) - 1 = gS P q s * 16 + (k - 1) by omega, ihx _ _ hS (by omega), ly, if_neg (Nat.lt_irrefl _)]
        · rw [if_neg (by omega), if_neg (by omega), ihx q k hq hk, lx, if_neg (Nat.lt_irrefl _), if_neg (by omega), hdeg q k (by omega), hdeg _ _ (by omega)]
      · by_cases e2 : q = gS P x s
        · rw [e2, ly, if_pos (show x < x + 1 by omega)]
          have hk1 : hkS P s A (gS P x s) k = A x k + (if k = 0 then 0 else A (gS P x s) (k - 1)) - A (gS P x s) k := by rw [hkS, if_pos ad, hs x s (by omega) hsR]
          rw [hk1, if_neg (by omega)]
          by_cases h1 : k < t + 1
          · rw [if_pos (by omega), show x * 16 + (gS P x s * 16 + k - gS P x s * 16) = x * 16 + k by omega, ihx x k (by omega) hk, lx, if_neg (Nat.lt_irrefl _), ihx _ k hS hk, ly, if_neg (Nat.lt_irrefl _)]
            by_cases e0 : k = 0
            · rw [if_pos (by omega), if_pos e0]
            · rw [if_neg (by omega), if_neg e0, show gS P x s * 16 + k - 1 = gS P x s * 16 + (k - 1) by omega, ihx _ _ hS (by omega), ly, if_neg (Nat.lt_irrefl _)]
          · rw [if_neg (by omega), ihx _ k hS hk, ly, if_neg (Nat.lt_irrefl _), if_neg (by omega), hdeg x k (by omega), hdeg _ k (by omega), hdeg _ (k - 1) (by omega)]; rfl
        · rw [if_neg (by omega), if_neg (by omega), ihx q k hq hk]
          have : low P s q ≠ x := by
            intro e
            rw [low] at e
            by_cases hq2 : (gE P q).testBit s = true
            · rw [if_pos hq2] at e
              exact e2 (by rw [← e, hs q s hq hsR])
            · rw [if_neg hq2] at e; exact e1 e
          by_cases h1 : low P s q < x
          · rw [if_pos h1, if_pos (by omega)]
          · rw [if_neg h1, if_neg (by omega)]
theorem low_lt {P : GD} (hV : GV P) {s q : Nat} (hs : s < gR P) (hq : q < gN P) : low P s q < gN P := by
  rw [low]; split
  · exact hV.2.2.2.1 q s hq hs
  · exact hq
theorem exF_hk {P : GD} (hC : GC P) (hV : GV P) (hs : hSi P) {v w : Nat} (hw : w < gN P) : ∀ i, i ≤ 13 → ∀ q k, q < gN P → k < 16 → exF spF P w (st0 v) i (q * 16 + k) = hkA P v w i q k := by
  intro i
  induction i with
  | zero =>
    intro _ q k hq hk
    rw [exF, hkA, st0]
    show (if _ then _ else _) = (if _ then _ else _)
    by_cases e : q = v ∧ k = 0
    · rw [if_pos (by omega), if_pos e]
    · rw [if_neg (by omega), if_neg e]
  | succ i ih =>
    intro hi q k hq hk
    rw [exF, exX_hk hC hV hs (gLet_lt hV hw) (by omega) (ih (by omega)) (fun q k h => hkA_deg i q k (by omega)) (gN P) (Nat.le_refl _) q k hq hk, if_pos (low_lt hV (gLet_lt hV hw) hq), hkA]
