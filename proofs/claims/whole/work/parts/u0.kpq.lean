/-! the sum by which the reference reckons P, all powers at once, in lanes of 16 bits -/
def sp7 (r : Nat) : Nat := pl r 0 + 65536 * pl r 1 + 4294967296 * pl r 2 + 281474976710656 * pl r 3 + 18446744073709551616 * pl r 4 + 1208925819614629174706176 * pl r 5 + 79228162514264337593543950336 * pl r 6
def tq (TT x w : Nat) : Nat := (TT >>> ((x * 60 + w) * 2)) % 4
def qq (t : Nat) : Nat := bif Nat.beq t 0 then 1 else 1 + 65536 * (t % 2) + 4294967296 * (t / 2)
def dl (f : Nat → Nat) (a : Nat) : Nat → List Nat
  | 0 => []
  | n + 1 => f (a + n) :: dl f a n
def kIn (TT w dw : Nat) (K : Nat → Nat → Bool) : List Nat → Nat → Nat → Nat → Bool
  | [], _, a, b => K a b
  | r :: rs, x, a, b => bif Nat.beq r 0 then frc (x - 1) (fun x2 => kIn TT w dw K rs x2 a b) else bif dw.testBit x then frc (tq TT x w) (fun t => frc (qq t) (fun q => frc (a + r * q) (fun a2 => frc (b + q) (fun b2 => frc (x - 1) (fun x2 => kIn TT w dw K rs x2 a2 b2))))) else frc (x - 1) (fun x2 => kIn TT w dw K rs x2 a b)
def kFi (mo t a b : Nat) : Bool := Nat.beq ((a + qq t) % 65536 ^ (mo + 1)) ((b * 5070679773345982577644796903488) % 65536 ^ (mo + 1))
def kWs (P : GD) (TT v : Nat) : List Nat → Nat → Bool
  | [], _ => true
  | r :: rs, w => (bif Nat.beq r 0 then (!(gD P w).testBit v && Nat.beq (tq TT v w) 0) else (Nat.blt (gL P v) (gL P w) && frc ((gL P w - gL P v - 1) / 2) (fun mo => frc (tq TT v w) (fun t => Nat.blt t (2 ^ mo) && frc (gD P w) (fun dw => kIn TT w dw (kFi mo t) (r :: rs) w 0 0))))) && frc (w - 1) (fun w2 => kWs P TT v rs w2)
def bL (P : GD) (v : Nat) (K : List Nat → Bool) : List Nat → Nat → List Nat → Bool
  | [], _, acc => K acc
  | c :: cs, x, acc => bif (gD P x).testBit v then frc (sp7 (pz c v)) (fun s => frc (x + 1) (fun x2 => bL P v K cs x2 (s :: acc))) else frc (x + 1) (fun x2 => bL P v K cs x2 (0 :: acc))
def kPq (P : GD) (TT : Nat) (l : List Nat) : Bool := Nat.beq l.length (gN P) && allB (fun v => Nat.beq ((TT >>> (v * 120)) % 2 ^ (2 * (v + 1))) 0 && bL P v (fun acc => kWs P TT v acc (gN P - 1)) (l.reverse.drop (v + 1)) (v + 1) []) (gN P)
def fX (P : GD) (l : List Nat) (v x : Nat) : Nat := if (gD P x).testBit v then sp7 (pz (l.getD (gN P - 1 - x) 0) v) else 0
def cX (P : GD) (v w x : Nat) : Bool := (gD P x).testBit v && (gD P w).testBit x
def rX (P : GD) (l : List Nat) (v x k : Nat) : Nat := pl (pz (l.getD (gN P - 1 - x) 0) v) k
def dX (P : GD) (TT : Nat) (l : List Nat) (v w k x : Nat) : Nat := if cX P v w x then rX P l v x k + (if 1 ≤ k then (tq TT x w % 2) * rX P l v x (k - 1) else 0) + (if 2 ≤ k then (tq TT x w / 2) * rX P l v x (k - 2) else 0) else 0
def aX (P : GD) (TT : Nat) (l : List Nat) (v w x : Nat) : Nat := if cX P v w x then fX P l v x * qq (tq TT x w) else 0
def bX (P : GD) (TT v w x : Nat) : Nat := if cX P v w x then qq (tq TT x w) else 0
def nX (P : GD) (TT v w j x : Nat) : Nat := if cX P v w x then (if j = 0 then 1 else if j = 1 then tq TT x w % 2 else tq TT x w / 2) else 0
def sN (g : Nat → Nat) (a : Nat) : Nat → Nat
  | 0 => 0
  | n + 1 => g (a + n) + sN g a n
theorem tq_lt (TT x w : Nat) : tq TT x w < 4 := Nat.mod_lt _ (by decide)
theorem qq_eq (t : Nat) : qq t = 1 + 65536 * (t % 2) + 4294967296 * (t / 2) := by
  unfold qq
  cases h : Nat.beq t 0 with
  | true => rw [beq_eq h]; rfl
  | false => rfl
theorem tB_1 (P : GD) (TT v w : Nat) : tB P TT v w 1 = tq TT v w % 2 := by
  rw [tB, if_neg (by decide), if_pos (by decide), tq, show (v * 60 + w) * 2 + (1 - 1) = (v * 60 + w) * 2 by omega]
  omega
theorem tB_2 (P : GD) (TT v w : Nat) : tB P TT v w 2 = tq TT v w / 2 := by
  rw [tB, if_neg (by decide), if_pos (by decide), tq, show (v * 60 + w) * 2 + (2 - 1) = (v * 60 + w) * 2 + 1 by omega, Nat.shiftRight_succ]
  omega
theorem tq_0 (TT : Nat) {v w : Nat} (h : (TT >>> (v * 120)) % 2 ^ (2 * (v + 1)) = 0) (hw : w ≤ v) : tq TT v w = 0 := by
  obtain ⟨m, hm⟩ := Nat.dvd_of_mod_eq_zero h
  rw [tq, show (v * 60 + w) * 2 = v * 120 + 2 * w by omega, Nat.shiftRight_add, hm, Nat.shiftRight_eq_div_pow, show 2 * (v + 1) = 2 * w + (2 * (v - w) + 2) by omega, Nat.pow_add, Nat.mul_assoc, Nat.mul_div_cancel_left _ (Nat.two_pow_pos _), Nat.pow_add, Nat.mul_comm (2 ^ (2 * (v - w))) (2 ^ 2), Nat.mul_assoc]
  exact Nat.mul_mod_right _ _
theorem pl_lt (r k : Nat) : pl r k < 256 := Nat.mod_lt _ (by decide)
theorem sN_le {g : Nat → Nat} {a c : Nat} (h : ∀ x, g x ≤ c) : ∀ n, sN g a n ≤ c * n := by
  intro n
  induction n with
  | zero => exact Nat.le_refl 0
  | succ n ih => rw [sN, Nat.mul_succ]; have := h (a + n); omega

theorem bL_ok {P : GD} {v : Nat} {l : List Nat} {K : List Nat → Bool} (hl : l.length = gN P) : ∀ (cs : List Nat) (x m : Nat), cs = l.reverse.drop x → x = v + 1 + m → x ≤ gN P → bL P v K cs x (dl (fX P l v) (v + 1) m) = true → K (dl (fX P l v) (v + 1) (gN P - (v + 1))) = true := by
  intro cs
  induction cs with
  | nil =>
    intro x m hc hx hN h
    have h1 : l.reverse.length ≤ x := List.drop_eq_nil_iff.mp hc.symm
    rw [List.length_reverse, hl] at h1
    rw [bL] at h
    have e : gN P - (v + 1) = m := by omega
    rw [e]; exact h
  | cons c cs ih =>
    intro x m hc hx hN h
    have hlt : x < l.reverse.length := by
      apply Decidable.byContradiction
      intro q
      rw [List.drop_eq_nil_of_le (by omega)] at hc
      cases hc
    rw [List.drop_eq_getElem_cons hlt] at hc
    injection hc with hc1 hc2
    rw [List.length_reverse, hl] at hlt
    have e0 : l.getD (gN P - 1 - x) 0 = c := by
      rw [hc1, List.getElem_reverse, List.getD_eq_getElem?_getD, List.getElem?_eq_getElem (by omega), Option.getD_some]
      congr 1
      omega
    rw [bL] at h
    have e : dl (fX P l v) (v + 1) (m + 1) = fX P l v x :: dl (fX P l v) (v + 1) m := by rw [dl, hx]
    cases hb : (gD P x).testBit v with
    | true =>
      rw [hb, cond_true, frc_eq, frc_eq] at h
      refine ih (x + 1) (m + 1) hc2 (by omega) (by omega) ?_
      rw [e, fX, if_pos hb, e0]; exact h
    | false =>
      rw [hb, cond_false, frc_eq] at h
      refine ih (x + 1) (m + 1) hc2 (by omega) (by omega) ?_
      rw [e, fX, if_neg (by rw [hb]; decide)]; exact h
theorem kIn_ok {P : GD} {TT v w : Nat} {l : List Nat} {K : Nat → Nat → Bool} (hZ : ∀ x, v < x → x ≤ w → fX P l v x = 0 → (gD P x).testBit v = false) : ∀ n a b, v + n ≤ w → kIn TT w (gD P w) K (dl (fX P l v) (v + 1) n) (v + n) a b = true → K (a + sN (aX P TT l v w) (v + 1) n) (b + sN (bX P TT v w) (v + 1) n) = true := by
  intro n
  induction n with
  | zero => intro a b _ h; exact h
  | succ n ih =>
    intro a b hn h
    rw [dl, kIn] at h
    have hx : v + (n + 1) = v + 1 + n := by omega
    have hx1 : v + 1 + n - 1 = v + n := by omega
    rw [hx] at h
    simp only [frc_eq, hx1] at h
    rw [sN, sN]
    cases h0 : Nat.beq (fX P l v (v + 1 + n)) 0 with
    | true =>
      rw [h0, cond_true] at h
      have z := hZ (v + 1 + n) (by omega) (by omega) (beq_eq h0)
      have ea : aX P TT l v w (v + 1 + n) = 0 := by rw [aX, cX, z]; rfl
      have eb : bX P TT v w (v + 1 + n) = 0 := by rw [bX, cX, z]; rfl
      rw [ea, eb, Nat.zero_add, Nat.zero_add]
      exact ih a b (by omega) h
    | false =>
      rw [h0, cond_false] at h
      have hd : (gD P (v + 1 + n)).testBit v = true := by
        cases hb : (gD P (v + 1 + n)).testBit v with
        | true => rfl
        | false => rw [fX, if_neg (by rw [hb]; decide)] at h0; exact absurd h0 (by decide)
      cases hw : (gD P w).testBit (v + 1 + n) with
      | true =>
        rw [hw, cond_true] at h
        have ea : aX P TT l v w (v + 1 + n) = fX P l v (v + 1 + n) * qq (tq TT (v + 1 + n) w) := by rw [aX, cX, hd, hw]; rfl
        have eb : bX P TT v w (v + 1 + n) = qq (tq TT (v + 1 + n) w) := by rw [bX, cX, hd, hw]; rfl
        rw [ea, eb, ← Nat.add_assoc, ← Nat.add_assoc]
        exact ih _ _ (by omega) h
      | false =>
        rw [hw, cond_false] at h
        have ea : aX P TT l v w (v + 1 + n) = 0 := by rw [aX, cX, hw, Bool.and_false]; rfl
        have eb : bX P TT v w (v + 1 + n) = 0 := by rw [bX, cX, hw, Bool.and_false]; rfl
        rw [ea, eb, Nat.zero_add, Nat.zero_add]
        exact ih a b (by omega) h

theorem aX_dig {P : GD} {TT v w : Nat} {l : List Nat} (x : Nat) : ∃ t, aX P TT l v w x = dX P TT l v w 0 x + 65536 * dX P TT l v w 1 x + 4294967296 * dX P TT l v w 2 x + 281474976710656 * dX P TT l v w 3 x + 18446744073709551616 * dX P TT l v w 4 x + 1208925819614629174706176 * dX P TT l v w 5 x + 79228162514264337593543950336 * dX P TT l v w 6 x + 5192296858534827628530496329220096 * t := by
  cases hc : cX P v w x with
  | false =>
    refine ⟨0, ?_⟩
    simp [aX, dX, hc]
  | true =>
    have hd : (gD P x).testBit v = true := (and2 hc).1
    have ht := tq_lt TT x w
    refine ⟨(tq TT x w % 2) * rX P l v x 6 + (tq TT x w / 2) * (rX P l v x 5 + 65536 * rX P l v x 6), ?_⟩
    have e : fX P l v x = rX P l v x 0 + 65536 * rX P l v x 1 + 4294967296 * rX P l v x 2 + 281474976710656 * rX P l v x 3 + 18446744073709551616 * rX P l v x 4 + 1208925819614629174706176 * rX P l v x 5 + 79228162514264337593543950336 * rX P l v x 6 := by
      rw [fX, if_pos hd]; rfl
    rw [aX, hc, if_pos rfl, e, qq_eq]
    simp only [dX, hc, if_true]
    obtain h | h | h | h : tq TT x w = 0 ∨ tq TT x w = 1 ∨ tq TT x w = 2 ∨ tq TT x w = 3 := by omega
    all_goals
      rw [h]
      simp
      try omega
theorem sA_dig {P : GD} {TT v w : Nat} {l : List Nat} : ∀ n, ∃ t, sN (aX P TT l v w) (v + 1) n = sN (dX P TT l v w 0) (v + 1) n + 65536 * sN (dX P TT l v w 1) (v + 1) n + 4294967296 * sN (dX P TT l v w 2) (v + 1) n + 281474976710656 * sN (dX P TT l v w 3) (v + 1) n + 18446744073709551616 * sN (dX P TT l v w 4) (v + 1) n + 1208925819614629174706176 * sN (dX P TT l v w 5) (v + 1) n + 79228162514264337593543950336 * sN (dX P TT l v w 6) (v + 1) n + 5192296858534827628530496329220096 * t := by
  intro n
  induction n with
  | zero => exact ⟨0, rfl⟩
  | succ n ih =>
    obtain ⟨t, ht⟩ := ih
    obtain ⟨u, hu⟩ := aX_dig (P := P) (TT := TT) (v := v) (w := w) (l := l) (v + 1 + n)
    refine ⟨t + u, ?_⟩
    simp only [sN]
    omega
theorem sB_dig {P : GD} {TT v w : Nat} : ∀ n, sN (bX P TT v w) (v + 1) n = sN (nX P TT v w 0) (v + 1) n + 65536 * sN (nX P TT v w 1) (v + 1) n + 4294967296 * sN (nX P TT v w 2) (v + 1) n := by
  intro n
  induction n with
  | zero => rfl
  | succ n ih =>
    have e : bX P TT v w (v + 1 + n) = nX P TT v w 0 (v + 1 + n) + 65536 * nX P TT v w 1 (v + 1 + n) + 4294967296 * nX P TT v w 2 (v + 1 + n) := by
      cases hc : cX P v w (v + 1 + n) with
      | false => simp [bX, nX, hc]
      | true => simp only [bX, nX, hc, if_true, qq_eq]; rfl
    simp only [sN]
    omega
theorem dX_le {P : GD} {TT v w k : Nat} {l : List Nat} (x : Nat) : dX P TT l v w k x ≤ 768 := by
  have ht := tq_lt TT x w
  have h0 : rX P l v x k < 256 := pl_lt _ _
  have h1 : rX P l v x (k - 1) < 256 := pl_lt _ _
  have h2 : rX P l v x (k - 2) < 256 := pl_lt _ _
  unfold dX
  split
  · obtain h | h | h | h : tq TT x w = 0 ∨ tq TT x w = 1 ∨ tq TT x w = 2 ∨ tq TT x w = 3 := by omega
    all_goals
      rw [h]
      simp only [show (0 : Nat) % 2 = 0 from rfl, show (1 : Nat) % 2 = 1 from rfl, show (2 : Nat) % 2 = 0 from rfl, show (3 : Nat) % 2 = 1 from rfl, show (0 : Nat) / 2 = 0 from rfl, show (1 : Nat) / 2 = 0 from rfl, show (2 : Nat) / 2 = 1 from rfl, show (3 : Nat) / 2 = 1 from rfl]
      (repeat' split) <;> omega
  · omega
theorem nX_le {P : GD} {TT v w j : Nat} (x : Nat) : nX P TT v w j x ≤ 1 := by
  have ht := tq_lt TT x w
  unfold nX
  (repeat' split) <;> omega
def pk (f : Nat → Nat) : Nat → Nat
  | 0 => 0
  | n + 1 => f 0 + 65536 * pk (fun i => f (i + 1)) n
theorem kq_dig {a b X Y n : Nat} (hx : a < 65536) (hy : b < 65536) (h : (a + 65536 * X) % 65536 ^ (n + 1) = (b + 65536 * Y) % 65536 ^ (n + 1)) : a = b ∧ X % 65536 ^ n = Y % 65536 ^ n := by
  rw [Nat.pow_succ, Nat.mul_comm (65536 ^ n) 65536, Nat.mod_mul, Nat.mod_mul, show (a + 65536 * X) % 65536 = a by omega, show (b + 65536 * Y) % 65536 = b by omega, show (a + 65536 * X) / 65536 = X by omega, show (b + 65536 * Y) / 65536 = Y by omega] at h
  generalize X % 65536 ^ n = p at h ⊢
  generalize Y % 65536 ^ n = q at h ⊢
  omega
theorem dgs : ∀ (m n s u : Nat) (f g : Nat → Nat), m ≤ n → (∀ k, k < n → f k < 65536 ∧ g k < 65536) → (pk f n + 65536 ^ n * s) % 65536 ^ m = (pk g n + 65536 ^ n * u) % 65536 ^ m → ∀ k, k < m → f k = g k := by
  intro m
  induction m with
  | zero => intro n s u f g _ _ _ k hk; omega
  | succ m ih =>
    intro n s u f g hn hb h k hk
    cases n with
    | zero => omega
    | succ n =>
      have e : ∀ (f : Nat → Nat) (s : Nat), pk f (n + 1) + 65536 ^ (n + 1) * s = f 0 + 65536 * (pk (fun i => f (i + 1)) n + 65536 ^ n * s) := by
        intro f s
        rw [pk, Nat.pow_succ, Nat.mul_add, Nat.mul_comm (65536 ^ n) 65536, Nat.mul_assoc, Nat.add_assoc]
      rw [e, e] at h
      obtain ⟨h1, h2⟩ := kq_dig (hb 0 (by omega)).1 (hb 0 (by omega)).2 h
      cases k with
      | zero => exact h1
      | succ k => exact ih n s u (fun i => f (i + 1)) (fun i => g (i + 1)) (by omega) (fun k hk => hb (k + 1) (by omega)) h2 k (by omega)

def pT (t k : Nat) : Nat := if k = 0 then 1 else if k = 1 then t % 2 else if k = 2 then t / 2 else 0
def eN (P : GD) (TT v w n k : Nat) : Nat := sN (nX P TT v w 0) (v + 1) n + (if 1 ≤ k then sN (nX P TT v w 1) (v + 1) n else 0) + (if 2 ≤ k then sN (nX P TT v w 2) (v + 1) n else 0)
set_option maxHeartbeats 4000000 in
theorem kFi_ok {P : GD} {TT v w n mo t : Nat} {l : List Nat} (hn : n ≤ 60) (hm : mo ≤ 6) (ht : t < 4) (h : kFi mo t (sN (aX P TT l v w) (v + 1) n) (sN (bX P TT v w) (v + 1) n) = true) : ∀ k, k ≤ mo → sN (dX P TT l v w k) (v + 1) n + pT t k = 64 * eN P TT v w n k := by
  intro k hk
  have h := beq_eq h
  obtain ⟨s, hs⟩ := sA_dig (P := P) (TT := TT) (v := v) (w := w) (l := l) n
  have hb := sB_dig (P := P) (TT := TT) (v := v) (w := w) n
  have b0 := sN_le (a := v + 1) (nX_le (P := P) (TT := TT) (v := v) (w := w) (j := 0)) n
  have b1 := sN_le (a := v + 1) (nX_le (P := P) (TT := TT) (v := v) (w := w) (j := 1)) n
  have b2 := sN_le (a := v + 1) (nX_le (P := P) (TT := TT) (v := v) (w := w) (j := 2)) n
  have bd : ∀ k, sN (dX P TT l v w k) (v + 1) n ≤ 768 * n := fun k => sN_le (dX_le (P := P) (TT := TT) (v := v) (w := w) (l := l) (k := k)) n
  refine dgs (mo + 1) 7 s (64 * sN (nX P TT v w 1) (v + 1) n + 64 * sN (nX P TT v w 2) (v + 1) n + 4194304 * sN (nX P TT v w 2) (v + 1) n) (fun k => sN (dX P TT l v w k) (v + 1) n + pT t k) (fun k => 64 * eN P TT v w n k) (by omega) (fun k _ => ⟨?_, ?_⟩) ?_ k (by omega)
  · have := bd k
    have : pT t k ≤ 1 := by unfold pT; (repeat' split) <;> omega
    show _ + _ < 65536
    omega
  · show 64 * eN P TT v w n k < 65536
    unfold eN
    (repeat' split) <;> omega
  · rw [hs, hb, qq_eq] at h
    have e1 : pk (fun k => sN (dX P TT l v w k) (v + 1) n + pT t k) 7 + 65536 ^ 7 * s = sN (dX P TT l v w 0) (v + 1) n + 65536 * sN (dX P TT l v w 1) (v + 1) n + 4294967296 * sN (dX P TT l v w 2) (v + 1) n + 281474976710656 * sN (dX P TT l v w 3) (v + 1) n + 18446744073709551616 * sN (dX P TT l v w 4) (v + 1) n + 1208925819614629174706176 * sN (dX P TT l v w 5) (v + 1) n + 79228162514264337593543950336 * sN (dX P TT l v w 6) (v + 1) n + 5192296858534827628530496329220096 * s + (1 + 65536 * (t % 2) + 4294967296 * (t / 2)) := by
      simp only [pk, pT]
      simp
      omega
    have e2 : pk (fun k => 64 * eN P TT v w n k) 7 + 65536 ^ 7 * (64 * sN (nX P TT v w 1) (v + 1) n + 64 * sN (nX P TT v w 2) (v + 1) n + 4194304 * sN (nX P TT v w 2) (v + 1) n) = (sN (nX P TT v w 0) (v + 1) n + 65536 * sN (nX P TT v w 1) (v + 1) n + 4294967296 * sN (nX P TT v w 2) (v + 1) n) * 5070679773345982577644796903488 := by
      simp only [pk, eN]
      simp
      omega
    rw [e1, e2]
    exact h

-- the sum, as the reference has it
def sI (g : Nat → Int) : Nat → Nat → Int
  | _, 0 => 0
  | x, n + 1 => g x + sI g (x + 1) n
theorem sI_top (g : Nat → Int) : ∀ n x, sI g x (n + 1) = sI g x n + g (x + n) := by
  intro n
  induction n with
  | zero => intro x; simp [sI]
  | succ n ih =>
    intro x
    rw [sI, ih (x + 1), sI, show x + 1 + n = x + (n + 1) by omega]
    omega
theorem sI_sN {g : Nat → Int} {d e : Nat → Nat} (h : ∀ x, g x = (d x : Int) - 64 * (e x : Int)) (a : Nat) : ∀ n, sI g a n = (sN d a n : Int) - 64 * (sN e a n : Int) := by
  intro n
  induction n with
  | zero => rfl
  | succ n ih =>
    rw [sI_top, ih, h, sN, sN]
    omega
def oX (P : GD) (TT v w k x : Nat) : Nat := if cX P v w x then 1 + (if 1 ≤ k then tq TT x w % 2 else 0) + (if 2 ≤ k then tq TT x w / 2 else 0) else 0
theorem oX_eN {P : GD} {TT v w k : Nat} : ∀ n, sN (oX P TT v w k) (v + 1) n = eN P TT v w n k := by
  intro n
  induction n with
  | zero => unfold eN; simp [sN]
  | succ n ih =>
    rw [sN, ih]
    unfold eN oX nX
    simp only [sN]
    cases hc : cX P v w (v + 1 + n) with
    | false => simp
    | true => simp; (repeat' split) <;> omega
set_option maxHeartbeats 4000000 in
theorem ps_x {P : GD} {TT v w k x : Nat} {l : List Nat} (hk : k ≤ 6) (hc : cX P v w x = true) (hR : ∀ i, i < 14 → rF P v x i = ((rX P l v x i : Nat) : Int) - 64) (z : Int) : psI P (tT P TT) v w k x (k + 1) 0 z = z + ((dX P TT l v w k x : Int) - 64 * (oX P TT v w k x : Int)) := by
  have T0 : tT P TT x w 0 = 1 := by rw [tT, tB_0, if_pos (and2 hc).2]; rfl
  have T1 : tT P TT x w 1 = ((tq TT x w % 2 : Nat) : Int) := by rw [tT, tB_1]
  have T2 : tT P TT x w 2 = ((tq TT x w / 2 : Nat) : Int) := by rw [tT, tB_2]
  have T3 : tT P TT x w 3 = 0 := by rw [tT, tB_3 P TT x w (by decide)]; rfl
  have T4 : tT P TT x w 4 = 0 := by rw [tT, tB_3 P TT x w (by decide)]; rfl
  have T5 : tT P TT x w 5 = 0 := by rw [tT, tB_3 P TT x w (by decide)]; rfl
  have T6 : tT P TT x w 6 = 0 := by rw [tT, tB_3 P TT x w (by decide)]; rfl
  have r0 := hR 0 (by decide)
  have r1 := hR 1 (by decide)
  have r2 := hR 2 (by decide)
  have r3 := hR 3 (by decide)
  have r4 := hR 4 (by decide)
  have r5 := hR 5 (by decide)
  have r6 := hR 6 (by decide)
  have ht := tq_lt TT x w
  obtain rfl | rfl | rfl | rfl | rfl | rfl | rfl : k = 0 ∨ k = 1 ∨ k = 2 ∨ k = 3 ∨ k = 4 ∨ k = 5 ∨ k = 6 := by omega
  all_goals
    simp only [psI, dX, oX, hc, if_true, Nat.zero_add, Nat.sub_zero, Nat.reduceAdd, Nat.reduceSub, T0, T1, T2, T3, T4, T5, T6, r0, r1, r2, r3, r4, r5, r6]
    obtain h | h | h | h : tq TT x w = 0 ∨ tq TT x w = 1 ∨ tq TT x w = 2 ∨ tq TT x w = 3 := by omega
    all_goals
      rw [h]
      simp
      try omega
theorem psX_sI {P : GD} {TT v w k : Nat} {l : List Nat} (hk : k ≤ 6) (hR : ∀ x i, x ≤ w → i < 14 → rF P v x i = ((rX P l v x i : Nat) : Int) - 64) : ∀ n x z, x + n ≤ w + 1 → psX P (tT P TT) v w k n x z = z + sI (fun x => (dX P TT l v w k x : Int) - 64 * (oX P TT v w k x : Int)) x n := by
  intro n
  induction n with
  | zero => intro x z _; simp [psX, sI]
  | succ n ih =>
    intro x z hx
    rw [psX, ih _ _ (by omega), sI]
    by_cases hc : cX P v w x = true
    · rw [if_pos (show ((gD P x).testBit v && (gD P w).testBit x) = true from hc), ps_x hk hc (fun i hi => hR x i (by omega) hi)]
      omega
    · have hc' : cX P v w x = false := by simpa using hc
      rw [if_neg (show ¬ ((gD P x).testBit v && (gD P w).testBit x) = true from hc)]
      simp [dX, oX, hc']
theorem kWs_ok {P : GD} {TT v : Nat} {l : List Nat} : ∀ n, kWs P TT v (dl (fX P l v) (v + 1) n) (v + n) = true → ∀ w, v < w → w ≤ v + n → (fX P l v w = 0 → (gD P w).testBit v = false ∧ tq TT v w = 0) ∧ (fX P l v w ≠ 0 → gL P v < gL P w ∧ tq TT v w < 2 ^ ((gL P w - gL P v - 1) / 2) ∧ kIn TT w (gD P w) (kFi ((gL P w - gL P v - 1) / 2) (tq TT v w)) (dl (fX P l v) (v + 1) (w - v)) w 0 0 = true) := by
  intro n
  induction n with
  | zero => intro _ w h1 h2; omega
  | succ n ih =>
    intro h w h1 h2
    rw [dl, kWs] at h
    obtain ⟨ha, hb⟩ := and2 h
    rw [frc_eq, show v + (n + 1) - 1 = v + n by omega] at hb
    by_cases e : w = v + (n + 1)
    · subst e
      have ex : v + 1 + n = v + (n + 1) := by omega
      rw [ex] at ha
      constructor
      · intro h0
        rw [h0, show Nat.beq 0 0 = true from rfl, cond_true] at ha
        obtain ⟨q1, q2⟩ := and2 ha
        exact ⟨by simpa using q1, beq_eq q2⟩
      · intro h0
        have hf : Nat.beq (fX P l v (v + (n + 1))) 0 = false := by
          cases hh : Nat.beq (fX P l v (v + (n + 1))) 0 with
          | false => rfl
          | true => exact absurd (beq_eq hh) h0
        rw [hf, cond_false, frc_eq, frc_eq, frc_eq] at ha
        obtain ⟨q1, q2⟩ := and2 ha
        obtain ⟨q2, q3⟩ := and2 q2
        refine ⟨blt_lt q1, blt_lt q2, ?_⟩
        rw [show v + (n + 1) - v = n + 1 by omega, dl, ex]
        exact q3
    · exact ih hb w h1 (by omega)

set_option maxHeartbeats 4000000 in
theorem kPq_ok {P : GD} {TT : Nat} {l : List Nat} (hBt : hBt P) (hV : GV P) (hR : ∀ v w k, v < gN P → w < gN P → k < 14 → rF P v w k = RTv l (gN P) v w k) (h : kPq P TT l = true) : hPp P (tT P TT) ∧ hP0 P (tT P TT) := by
  have h60 := GV_N hV
  obtain ⟨hl, h⟩ := and2 h
  have hl := beq_eq hl
  have key : ∀ v, v < gN P → (∀ w, w ≤ v → tq TT v w = 0) ∧ (∀ w, v < w → w < gN P → (fX P l v w = 0 → (gD P w).testBit v = false ∧ tq TT v w = 0) ∧ (fX P l v w ≠ 0 → gL P v < gL P w ∧ tq TT v w < 2 ^ ((gL P w - gL P v - 1) / 2) ∧ kIn TT w (gD P w) (kFi ((gL P w - gL P v - 1) / 2) (tq TT v w)) (dl (fX P l v) (v + 1) (w - v)) w 0 0 = true)) := by
    intro v hv
    obtain ⟨q1, q2⟩ := and2 (allB_at h v hv)
    refine ⟨fun w hw => tq_0 TT (beq_eq q1) hw, fun w h1 h2 => ?_⟩
    have q3 := bL_ok hl _ _ 0 rfl rfl (by omega) q2
    have e : gN P - 1 = v + (gN P - (v + 1)) := by omega
    rw [e] at q3
    exact kWs_ok _ q3 w h1 (by omega)
  have zero : ∀ v w, v < gN P → w < gN P → v ≠ w → (gD P w).testBit v = false → tq TT v w = 0 := by
    intro v w hv hw hne hb
    obtain ⟨k1, k2⟩ := key v hv
    by_cases c : w ≤ v
    · exact k1 w c
    · obtain ⟨k3, _⟩ := k2 w (by omega) hw
      refine (k3 ?_).2
      rw [fX, if_neg (by rw [hb]; decide)]
  have TZ : ∀ v w, tq TT v w = 0 → ∀ k, 1 ≤ k → tB P TT v w k = 0 := by
    intro v w h0 k hk
    have : k = 1 ∨ k = 2 ∨ 3 ≤ k := by omega
    rcases this with e | e | e
    · rw [e, tB_1, h0]
    · rw [e, tB_2, h0]
    · exact tB_3 P TT v w e
  refine ⟨fun v w hv hw => ?_, fun v w hv hw hb => by rw [tT, tB_0, if_pos hb]; rfl⟩
  have below : v ≠ w → (gD P w).testBit v = true → v < w ∧ gL P v < gL P w ∧ tq TT v w < 2 ^ ((gL P w - gL P v - 1) / 2) ∧ kIn TT w (gD P w) (kFi ((gL P w - gL P v - 1) / 2) (tq TT v w)) (dl (fX P l v) (v + 1) (w - v)) w 0 0 = true := by
    intro hne hb
    have hlt : v < w := by have := hBt.2.2 v w hv hw hb; omega
    obtain ⟨k3, k4⟩ := (key v hv).2 w hlt hw
    exact ⟨hlt, k4 (fun z => by rw [(k3 z).1] at hb; cases hb)⟩
  refine ⟨fun k hk e => ?_, fun k hk e hb => ?_, fun e hb => ?_, fun k hk e hb => ?_⟩
  · subst e
    by_cases h0 : k = 0
    · rw [if_pos h0, h0, tT, tB_0, if_pos (hBt.1 v hv)]; rfl
    · rw [if_neg h0, tT, TZ v v ((key v hv).1 v (Nat.le_refl _)) k (by omega)]; rfl
  · by_cases h0 : k = 0
    · rw [h0, tT, tB_0, if_neg (by rw [hb]; decide)]; rfl
    · rw [tT, TZ v w (zero v w hv hw e hb) k (by omega)]; rfl
  · obtain ⟨a, b, _⟩ := below e hb
    exact ⟨b, a⟩
  · obtain ⟨hlt, hL, hq, hi⟩ := below e hb
    have hLw := (hV.2.2.1 w hw).1
    have t4 := tq_lt TT v w
    by_cases hm : k ≤ (gL P w - gL P v - 1) / 2
    · rw [if_pos hm]
      have hZ : ∀ x, v < x → x ≤ w → fX P l v x = 0 → (gD P x).testBit v = false := fun x h1 h2 h3 => (((key v hv).2 x h1 (by omega)).1 h3).1
      have hi2 := kIn_ok hZ (w - v) 0 0 (by omega) (by rw [show v + (w - v) = w by omega]; exact hi)
      rw [Nat.zero_add, Nat.zero_add] at hi2
      have hf := kFi_ok (by omega) (by omega) t4 hi2 k hm
      have hp := psX_sI (P := P) (TT := TT) (v := v) (w := w) (k := k) (l := l) (by omega) (fun x i hx hi => hR v x i hv (by omega) hi) (w - v) (v + 1) 0 (by omega)
      rw [hp, sI_sN (fun x => rfl), oX_eN, Int.zero_add]
      have ep : tT P TT v w k = ((pT (tq TT v w) k : Nat) : Int) := by
        rw [tT]
        congr 1
        have : k = 0 ∨ k = 1 ∨ k = 2 ∨ 3 ≤ k := by omega
        rcases this with e | e | e | e
        · rw [e, tB_0, if_pos hb]; rfl
        · rw [e, tB_1]; rfl
        · rw [e, tB_2]; rfl
        · rw [tB_3 P TT v w e, pT, if_neg (by omega), if_neg (by omega), if_neg (by omega)]
      rw [ep]
      omega
    · rw [if_neg hm]
      have hz : tB P TT v w k = 0 := by
        have : k = 0 ∨ k = 1 ∨ k = 2 ∨ 3 ≤ k := by omega
        rcases this with e | e | e | e
        · omega
        · have m0 : (gL P w - gL P v - 1) / 2 = 0 := by omega
          rw [m0] at hq
          rw [e, tB_1]; omega
        · have m1 : (gL P w - gL P v - 1) / 2 = 0 ∨ (gL P w - gL P v - 1) / 2 = 1 := by omega
          rcases m1 with m | m
          · rw [m] at hq; rw [e, tB_2]; omega
          · rw [m] at hq; rw [e, tB_2]; omega
        · exact tB_3 P TT v w e
      rw [tT, hz]; rfl
def kRQ (P : GD) (TT : Nat) : Bool := kHT P TT && bldR P (fun l => kRl P l && kPq P TT l) (gN P) 0 []
theorem GF_okQ {P : GD} {TT : Nat} (h1 : kCh P = true) (h2 : kMe P = true) (h3 : kRQ P TT = true) : GF P (tT P TT) := by
  have g := kCh_ok h1
  obtain ⟨hV, hC, hd, hs, hO, hm, hS, hB, hBt, hN⟩ := g
  obtain ⟨q1, q2⟩ := and2 h3
  obtain ⟨l, q3⟩ := bldR_ex _ _ _ q2
  obtain ⟨q4, q5⟩ := and2 q3
  obtain ⟨r1, r2⟩ := kRl_ok hC hV hs hB q4
  obtain ⟨p1, p2⟩ := kPq_ok hBt hV r1 q5
  exact ⟨kCh_ok h1, kMe_ok hN (GV_N hV) hC hB h2, ⟨hB, r2, p1⟩, p2, kHT_ok hV hC hs hB hBt q1⟩

