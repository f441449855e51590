/-! BRAIDS: letters move columns; s and t by turns, twice as often as their bond says, move nothing -/
def ac (bo : Nat → Nat) (s : Nat) (u : Nat → Nat) : Nat → Nat := fun q => (u q + wth bo s q * u s) % 55441
theorem ac_lt (bo : Nat → Nat) (s : Nat) (u : Nat → Nat) (q : Nat) : ac bo s u q < 55441 := Nat.mod_lt _ (by decide)
theorem mdm (x w y : Nat) : (x % 55441 + w * (y % 55441)) % 55441 = (x + w * y) % 55441 := by
  rw [Nat.add_mod, Nat.mod_mod, Nat.mul_mod, Nat.mod_mod, ← Nat.mul_mod, ← Nat.add_mod]
theorem ac_ac (bo : Nat → Nat) (s : Nat) (u : Nat → Nat) (q : Nat) (h : u q < 55441) : ac bo s (ac bo s u) q = u q := by
  unfold ac
  rw [mdm]
  have e : wth bo s s = 55439 := if_pos rfl
  rw [e]
  have e2 : u q + wth bo s q * u s + wth bo s q * (u s + 55439 * u s) = u q + 55441 * (wth bo s q * u s) := by
    have : u s + 55439 * u s = 55440 * u s := by omega
    rw [this, Nat.mul_left_comm]
    omega
  rw [e2, Nat.add_mul_mod_self_left, Nat.mod_eq_of_lt h]
/-- u2 is u moved, told by four numbers -/
def REP (bo : Nat → Nat) (s t : Nat) (u u2 : Nat → Nat) (A B C D : Nat) : Prop := ∀ q, u2 q = (u q + wth bo s q * (A * u s + B * u t) + wth bo t q * (C * u s + D * u t)) % 55441
theorem REP_0 {bo : Nat → Nat} {s t : Nat} {u : Nat → Nat} (h : ∀ q, u q < 55441) : REP bo s t u u 0 0 0 0 := by
  intro q
  simp only [Nat.zero_mul, Nat.add_zero, Nat.mul_zero]
  exact (Nat.mod_eq_of_lt (h q)).symm
theorem ring1 (x w v A B C D a b c : Nat) : x + w * (A * a + B * b) + v * (C * a + D * b) + w * (a + 55439 * (A * a + B * b) + c * (C * a + D * b)) = x + w * ((A + 1 + 55439 * A + c * C) * a + (B + 55439 * B + c * D) * b) + v * (C * a + D * b) := by
  simp only [Nat.mul_add, Nat.add_mul, Nat.one_mul, Nat.mul_assoc]
  omega
theorem ring2 (x w v A B C D a b c : Nat) : x + w * (A * a + B * b) + v * (C * a + D * b) + v * (b + c * (A * a + B * b) + 55439 * (C * a + D * b)) = x + w * (A * a + B * b) + v * ((C + c * A + 55439 * C) * a + (D + 1 + c * B + 55439 * D) * b) := by
  simp only [Nat.mul_add, Nat.add_mul, Nat.one_mul, Nat.mul_assoc]
  omega
theorem REP_s {bo : Nat → Nat} {s t c : Nat} {u u2 : Nat → Nat} {A B C D : Nat} (hc : wth bo t s = c) (h : REP bo s t u u2 A B C D) : REP bo s t u (ac bo s u2) (A + 1 + 55439 * A + c * C) (B + 55439 * B + c * D) C D := by
  intro q
  have e : wth bo s s = 55439 := if_pos rfl
  unfold ac
  rw [h q, h s, mdm, hc, e, ring1]
theorem REP_t {bo : Nat → Nat} {s t c : Nat} {u u2 : Nat → Nat} {A B C D : Nat} (hc : wth bo s t = c) (h : REP bo s t u u2 A B C D) : REP bo s t u (ac bo t u2) A B (C + c * A + 55439 * C) (D + 1 + c * B + 55439 * D) := by
  intro q
  have e : wth bo t t = 55439 := if_pos rfl
  unfold ac
  rw [h q, h t, mdm, hc, e, ring2]
def altA (bo : Nat → Nat) (s t : Nat) : Nat → Nat → (Nat → Nat) → (Nat → Nat)
  | 0, _, u => u
  | k + 1, l, u => altA bo s t k (s + t - l) (ac bo l u)
/-- the four numbers behind k letters; b: the next letter is t -/
def rnC (c : Nat) : Nat → Bool → Nat × Nat × Nat × Nat → Nat × Nat × Nat × Nat
  | 0, _, z => z
  | k + 1, true, (A, B, C, D) => rnC c k false (A, B, C + c * A + 55439 * C, D + 1 + c * B + 55439 * D)
  | k + 1, false, (A, B, C, D) => rnC c k true (A + 1 + 55439 * A + c * C, B + 55439 * B + c * D, C, D)
theorem REP_run {bo : Nat → Nat} {s t c : Nat} (hst : wth bo s t = c) (hts : wth bo t s = c) {u : Nat → Nat} : ∀ k (b : Bool) (u2 : Nat → Nat) (A B C D : Nat), REP bo s t u u2 A B C D → REP bo s t u (altA bo s t k (if b then t else s) u2) (rnC c k b (A, B, C, D)).1 (rnC c k b (A, B, C, D)).2.1 (rnC c k b (A, B, C, D)).2.2.1 (rnC c k b (A, B, C, D)).2.2.2 := by
  intro k
  induction k with
  | zero => intro b u2 A B C D h; exact h
  | succ k ih =>
    intro b u2 A B C D h
    cases b with
    | true =>
      have e : s + t - t = s := by omega
      have := ih false _ _ _ _ _ (REP_t hst h)
      simpa [altA, rnC, e] using this
    | false =>
      have e : s + t - s = t := by omega
      have := ih true _ _ _ _ _ (REP_s hts h)
      simpa [altA, rnC, e] using this
def brk (m : Nat) : Bool := (fun z : Nat × Nat × Nat × Nat => Nat.beq (z.1 % 55441) 0 && Nat.beq (z.2.1 % 55441) 0 && Nat.beq (z.2.2.1 % 55441) 0 && Nat.beq (z.2.2.2 % 55441) 0) (rnC (cmN (m - 2)) (2 * m) true (0, 0, 0, 0))
theorem brk_all : allB (fun i => brk (i + 2)) 11 = true := by decide +kernel
theorem dvd0 (x w v a b A B C D : Nat) (h : x < 55441) (hA : A % 55441 = 0) (hB : B % 55441 = 0) (hC : C % 55441 = 0) (hD : D % 55441 = 0) : (x + w * (A * a + B * b) + v * (C * a + D * b)) % 55441 = x := by
  obtain ⟨A', rfl⟩ := Nat.dvd_of_mod_eq_zero hA
  obtain ⟨B', rfl⟩ := Nat.dvd_of_mod_eq_zero hB
  obtain ⟨C', rfl⟩ := Nat.dvd_of_mod_eq_zero hC
  obtain ⟨D', rfl⟩ := Nat.dvd_of_mod_eq_zero hD
  have e : x + w * (55441 * A' * a + 55441 * B' * b) + v * (55441 * C' * a + 55441 * D' * b) = x + 55441 * (w * (A' * a + B' * b) + v * (C' * a + D' * b)) := by
    rw [Nat.mul_assoc, Nat.mul_assoc, Nat.mul_assoc, Nat.mul_assoc, ← Nat.mul_add, ← Nat.mul_add, Nat.mul_left_comm w, Nat.mul_left_comm v, Nat.add_assoc, ← Nat.mul_add]
  rw [e, Nat.add_mul_mod_self_left, Nat.mod_eq_of_lt h]
theorem braid {bo : Nat → Nat} {s t m : Nat} (hm : 2 ≤ m ∧ m ≤ 12) (hne : s ≠ t) (h1 : bo (5 * s + t) = m) (h2 : bo (5 * t + s) = m) {u : Nat → Nat} (hu : ∀ q, u q < 55441) : ∀ q, altA bo s t (2 * m) t u q = u q := by
  intro q
  have hst : wth bo s t = cmN (m - 2) := by rw [wth, if_neg (Ne.symm hne), h1]
  have hts : wth bo t s = cmN (m - 2) := by rw [wth, if_neg hne, h2]
  have hr := REP_run hst hts (2 * m) true u 0 0 0 0 (REP_0 hu) q
  have hk := allB_at brk_all (m - 2) (by omega)
  have em : m - 2 + 2 = m := by omega
  simp only [em, brk] at hk
  obtain ⟨hk, k4⟩ := and2 hk
  obtain ⟨hk, k3⟩ := and2 hk
  obtain ⟨k1, k2⟩ := and2 hk
  rw [if_pos rfl] at hr
  rw [hr]
  exact dvd0 _ _ _ _ _ _ _ _ _ (hu q) (beq_eq k1) (beq_eq k2) (beq_eq k3) (beq_eq k4)
theorem altA_last (bo : Nat → Nat) (s t : Nat) : ∀ k l u, (l = s ∨ l = t) → altA bo s t (2 * k + 1) l u = ac bo l (altA bo s t (2 * k) l u) ∧ altA bo s t (2 * k + 2) l u = ac bo (s + t - l) (altA bo s t (2 * k + 1) l u) := by
  intro k
  induction k with
  | zero => intro l u _; exact ⟨rfl, rfl⟩
  | succ k ih =>
    intro l u hl
    have e : s + t - (s + t - l) = l := by omega
    have ih2 := ih l (ac bo (s + t - l) (ac bo l u)) hl
    have a1 : altA bo s t (2 * (k + 1) + 1) l u = altA bo s t (2 * k + 1) l (ac bo (s + t - l) (ac bo l u)) := by
      show altA bo s t (2 * k + 1) (s + t - (s + t - l)) (ac bo (s + t - l) (ac bo l u)) = _
      rw [e]
    have a2 : altA bo s t (2 * (k + 1)) l u = altA bo s t (2 * k) l (ac bo (s + t - l) (ac bo l u)) := by
      show altA bo s t (2 * k) (s + t - (s + t - l)) (ac bo (s + t - l) (ac bo l u)) = _
      rw [e]
    have a3 : altA bo s t (2 * (k + 1) + 2) l u = altA bo s t (2 * k + 2) l (ac bo (s + t - l) (ac bo l u)) := by
      show altA bo s t (2 * k + 2) (s + t - (s + t - l)) (ac bo (s + t - l) (ac bo l u)) = _
      rw [e]
    rw [a1, a2, a3]
    exact ih2
theorem braid_s {bo : Nat → Nat} {s t m : Nat} (hm : 2 ≤ m ∧ m ≤ 12) (hne : s ≠ t) (h1 : bo (5 * s + t) = m) (h2 : bo (5 * t + s) = m) {u : Nat → Nat} (hu : ∀ q, u q < 55441) : ∀ q, ac bo t (altA bo s t (2 * (m - 1)) t u) q = ac bo s u q := by
  intro q
  have hb := braid hm hne h1 h2 hu
  have hl := altA_last bo s t (m - 1) t u (Or.inr rfl)
  have e1 : 2 * (m - 1) + 2 = 2 * m := by omega
  have e2 : s + t - t = s := by omega
  rw [e1, e2, hl.1] at hl
  have hlt := ac_lt bo t (altA bo s t (2 * (m - 1)) t u) q
  rw [← ac_ac bo s (ac bo t (altA bo s t (2 * (m - 1)) t u)) q hlt]
  have hf : ac bo s (ac bo t (altA bo s t (2 * (m - 1)) t u)) = u := by
    funext z
    rw [← hl.2]
    exact hb z
  rw [hf]
def EQr (r : Nat) (u v : Nat → Nat) : Prop := ∀ q, q < r → u q = v q
theorem ac_eq {bo : Nat → Nat} {r s : Nat} {u v : Nat → Nat} (hs : s < r) (h : EQr r u v) : EQr r (ac bo s u) (ac bo s v) := fun q hq => by unfold ac; rw [h q hq, h s hs]
theorem altA_eq {bo : Nat → Nat} {r s t : Nat} (hs : s < r) (ht : t < r) : ∀ k l u v, (l = s ∨ l = t) → EQr r u v → EQr r (altA bo s t k l u) (altA bo s t k l v) := by
  intro k
  induction k with
  | zero => intro l u v _ h; exact h
  | succ k ih => intro l u v hl h; exact ih _ _ _ (by omega) (ac_eq (by omega) h)

