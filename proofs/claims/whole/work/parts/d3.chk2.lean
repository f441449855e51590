/-! RECKONING of what the building of a table asks -/
def kFK (P : GD) : Bool :=
  allB (fun y => Nat.beq y 0 || Nat.beq (gS P (gH P y) (gA P y)) y) (gN P) &&
  (allB (fun x => allB (fun s => Nat.beq (gS P x s) 0 || Nat.ble (5 * gH P (gS P x s) + gA P (gS P x s)) (5 * x + s)) (gR P)) (gN P) &&
  allB (fun y => Nat.beq y 0 || (Nat.ble (gN P) (y + 1) || Nat.blt (5 * gH P y + gA P y) (5 * gH P (y + 1) + gA P (y + 1)))) (gN P))
theorem kFK_ok {P : GD} (h : kFK P = true) : FK1 P := by
  obtain ⟨h1, h⟩ := and2 h
  obtain ⟨h2, h3⟩ := and2 h
  refine ⟨fun y a b => ?_, fun x s a b => ?_, fun y a b => ?_⟩
  · rcases or2 (allB_at h1 y b) with e | e
    · have := beq_eq e; omega
    · exact beq_eq e
  · rcases or2 (allB_at (allB_at h2 x a) s b) with e | e
    · exact Or.inl (beq_eq e)
    · exact Or.inr (ble_le e)
  · rcases or2 (allB_at h3 y (by omega)) with e | e
    · have := beq_eq e; omega
    · rcases or2 e with e | e
      · have := ble_le e; omega
      · exact blt_lt e
theorem nbr : ∀ b : Nat, Nat.beq b b = true
  | 0 => rfl
  | b + 1 => nbr b
theorem nb_ne {a b : Nat} (h : (!Nat.beq a b) = true) : a ≠ b := by
  intro e
  rw [e] at h
  have : Nat.beq b b = true := nbr b
  rw [this] at h
  exact absurd h (by decide)
def kFO (P : GD) : Bool :=
  (Nat.beq (gH P 0) 0 && Nat.beq (gA P 0) 0) &&
  (allB (fun x => allB (fun s => (!Nat.beq (gS P x s) x) && ((Nat.ble (gS P x s) x || Nat.blt (gL P x) (gL P (gS P x s))) && Nat.beq (gS P (gS P x s) s) x)) (gR P)) (gN P) &&
  allB (fun y => Nat.beq y 0 || allB (fun t => Nat.beq t (gA P y) || Nat.beq (oD P y (gA P y) t (gB P (gA P y) t - 1) (gB P (gA P y) t - 1) t (gH P y)) (bif Nat.blt (gS P y t) y then gS P y t + 1 else 0)) (gR P)) (gN P))
theorem bif_lt (a b x y : Nat) : (bif Nat.blt a b then x else y) = if a < b then x else y := by
  rw [blt_dec]
  by_cases h : a < b
  · rw [decide_eq_true h, if_pos h]; rfl
  · rw [decide_eq_false h, if_neg h]; rfl
theorem kFO_ok {P : GD} (h : kFO P = true) : FO P := by
  obtain ⟨h1, h⟩ := and2 h
  obtain ⟨h2, h3⟩ := and2 h
  refine ⟨⟨beq_eq (and2 h1).1, beq_eq (and2 h1).2⟩, fun x s a b => ?_, fun y t a b c d => ?_⟩
  · obtain ⟨c1, c⟩ := and2 (allB_at (allB_at h2 x a) s b)
    obtain ⟨c2, c3⟩ := and2 c
    refine ⟨nb_ne c1, fun q => ?_, beq_eq c3⟩
    rcases or2 c2 with e | e
    · have := ble_le e; omega
    · exact blt_lt e
  · rcases or2 (allB_at h3 y b) with e | e
    · have := beq_eq e; omega
    · rcases or2 (allB_at e t c) with e | e
      · exact absurd (beq_eq e) d
      · rw [beq_eq e, bif_lt]
def kFB (P : GD) (m : Nat) : Bool :=
  Nat.beq (mAll P) m &&
  (allB (fun x => Nat.beq (rvF P x (gL P x) 0) (gI P x)) (gN P) &&
  (allB (fun x => allB (fun s => Nat.beq (gI P (gS P (gI P x) s)) (gX P (s + 1) x)) (gR P)) (gN P) &&
  (allB (fun x => !(m.testBit x) || Nat.beq (gT P (cntU (fun i => m.testBit i) x)) x) (gN P) &&
  Nat.beq (cntU (fun i => m.testBit i) (gN P)) (gM P))))
theorem kFB_ok {P : GD} {m : Nat} (h : kFB P m = true) : FB P := by
  obtain ⟨h0, h⟩ := and2 h
  obtain ⟨h1, h⟩ := and2 h
  obtain ⟨h2, h⟩ := and2 h
  obtain ⟨h3, h4⟩ := and2 h
  have e := beq_eq h0
  unfold FB
  rw [e]
  refine ⟨fun x a => beq_eq (allB_at h1 x a), fun x s a b => beq_eq (allB_at (allB_at h2 x a) s b), fun x a b => ?_, beq_eq h4⟩
  rcases or2 (allB_at h3 x a) with q | q
  · rw [b] at q; exact absurd q (by decide)
  · exact beq_eq q
def kFQ (P : GD) : Bool :=
  (Nat.beq (gI P 0) 0 && allB (fun x => Nat.beq x 0 || (Nat.blt 0 (gI P x) && (Nat.beq (gX P x (gI P x)) 0 && allB (fun y => Nat.beq y 0 || (Nat.beq y (gI P x) || !Nat.beq (gX P x y) 0)) (gN P)))) (gN P)) &&
  ((Nat.beq (gW P 0) 1 && allB (fun x => Nat.beq x 0 || Nat.beq (rwF P x (gR P) 0 0) (gW P x)) (gN P)) &&
  ((Nat.beq (gD P 0) 1 && allB (fun x => Nat.beq x 0 || Nat.beq (gD P x) (gD P (gH P x) ||| gAll P (gD P (gH P x)) (gA P x) (gN P))) (gN P)) &&
  (allB (fun x => Nat.blt (gF P x) (2 ^ gR P) && Nat.blt (gE P x) (2 ^ gR P)) (gN P) &&
  (Nat.beq (gO P 0) 0 && (allB (fun x => allB (fun i => Nat.ble (gO P (gX P (gT P i) x)) (gO P x + 1)) (gM P)) (gN P) &&
  allB (fun y => Nat.beq y 0 || anyB (fun i => Nat.beq (gX P (gT P i) (gX P (gT P i) y)) y && (Nat.blt (gX P (gT P i) y) (gN P) && Nat.beq (gO P (gX P (gT P i) y) + 1) (gO P y))) (gM P) 0) (gN P))))))
theorem kFQ_ok {P : GD} (h : kFQ P = true) : FQ P := by
  obtain ⟨h1, h⟩ := and2 h
  obtain ⟨h2, h⟩ := and2 h
  obtain ⟨h3, h⟩ := and2 h
  obtain ⟨h4, h⟩ := and2 h
  obtain ⟨h5, h⟩ := and2 h
  obtain ⟨h6, h7⟩ := and2 h
  refine ⟨⟨beq_eq (and2 h1).1, fun x a b => ?_⟩, ⟨beq_eq (and2 h2).1, fun x a b => ?_⟩, ⟨beq_eq (and2 h3).1, fun x a b => ?_⟩, fun x a => ⟨blt_lt (and2 (allB_at h4 x a)).1, blt_lt (and2 (allB_at h4 x a)).2⟩, beq_eq h5, fun x i a b => ble_le (allB_at (allB_at h6 x a) i b), fun y a b => ?_⟩
  · rcases or2 (allB_at (and2 h1).2 x b) with e | e
    · have := beq_eq e; omega
    · obtain ⟨c1, c⟩ := and2 e
      obtain ⟨c2, c3⟩ := and2 c
      refine ⟨blt_lt c1, fun y p q => ⟨fun r => ?_, fun r => by rw [r]; exact beq_eq c2⟩⟩
      rcases or2 (allB_at c3 y q) with e | e
      · have := beq_eq e; omega
      · rcases or2 e with e | e
        · exact beq_eq e
        · exact absurd r (nb_ne e)
  · rcases or2 (allB_at (and2 h2).2 x b) with e | e
    · have := beq_eq e; omega
    · exact beq_eq e
  · rcases or2 (allB_at (and2 h3).2 x b) with e | e
    · have := beq_eq e; omega
    · exact beq_eq e
  · rcases or2 (allB_at h7 y b) with e | e
    · have := beq_eq e; omega
    · obtain ⟨i, _, c2, c3⟩ := anyB_at e
      obtain ⟨d1, d⟩ := and2 c3
      obtain ⟨d2, d3⟩ := and2 d
      exact ⟨gX P (gT P i) y, i, blt_lt d2, by omega, beq_eq d1, beq_eq d3⟩
def imF (d : Nat) (k : Nat) : Nat := (d >>> (16 * k)) % 65536
def boP (P : GD) (i : Nat) : Nat := P 0 i
def kFI (P : GD) (d : Nat) : Bool :=
  allB (fun q => allB (fun i => Nat.beq (imF d (5 * q + i)) (bif Nat.beq q i then 1 else 0)) (gR P)) (gR P) &&
  (allB (fun x => allB (fun s => allB (fun q => allB (fun i => Nat.beq (imF d (25 * gS P x s + 5 * q + i)) (stp (boP P) (imF d) x s q i)) (gR P)) (gR P)) (gR P)) (gN P) &&
  allB (fun y => allB (fun z => anyB (fun q => anyB (fun i => !Nat.beq (imF d (25 * y + 5 * q + i)) (imF d (25 * z + 5 * q + i))) (gR P) 0) (gR P) 0) y) (gN P))
theorem kFI_ok {P : GD} {d : Nat} (hK : FK1 P) (h : kFI P d = true) : FI P (boP P) (imF d) := by
  obtain ⟨h1, h⟩ := and2 h
  obtain ⟨h2, h3⟩ := and2 h
  have hd : ∀ y z, z < y → y < gN P → ¬ SAM (gR P) (imF d) y z := by
    intro y z hz hy hs
    obtain ⟨q, _, b, e⟩ := anyB_at (allB_at (allB_at h3 y hy) z hz)
    obtain ⟨i, _, b2, e2⟩ := anyB_at e
    exact nb_ne e2 (hs q i (by omega) (by omega))
  refine ⟨hK.1, hK.2.1, hK.2.2, fun q i a b => ?_, fun x s q i a b c e => beq_eq (allB_at (allB_at (allB_at (allB_at h2 x a) s b) q c) i e), fun y z a b c => ?_⟩
  · rw [beq_eq (allB_at (allB_at h1 q a) i b)]
    by_cases e : q = i
    · rw [if_pos e, e, nbr i]; rfl
    · rw [if_neg e]
      cases hb : Nat.beq q i with
      | true => exact absurd (beq_eq hb) e
      | false => rfl
  · rcases Nat.lt_trichotomy y z with e | e | e
    · exact absurd (fun q i p r => (c q i p r).symm) (hd z y e b)
    · exact e
    · exact absurd c (hd y z e a)
theorem FI_bo {P : GD} {bo b2 im0 : Nat → Nat} (hV : GV P) (h : FI P b2 im0) (hb : ∀ s q, s < gR P → q < gR P → q ≠ s → bo (5 * s + q) = b2 (5 * s + q)) : FI P bo im0 := by
  refine ⟨h.1, h.2.1, h.2.2.1, h.2.2.2.1, fun x s q i a b c d => ?_, h.2.2.2.2.2⟩
  rw [h.2.2.2.2.1 x s q i a b c d, stp, stp]
  have e : wth b2 s q = wth bo s q := by
    unfold wth
    split
    · rfl
    · rename_i e; rw [hb s q b c e]
  rw [e]
/-- all that the building asks of a table -/
def FZ (P : GD) : Prop := FK1 P ∧ FO P ∧ FB P ∧ FQ P ∧ (∃ im0, FI P (boP P) im0) ∧ ∀ s t, s < gR P → t < gR P → t ≠ s → 2 ≤ gB P s t
def kFZ (P : GD) (m d : Nat) : Bool := kFK P && (kFO P && (kFB P m && (kFQ P && (kFI P d && allB (fun s => allB (fun t => Nat.beq t s || Nat.ble 2 (gB P s t)) (gR P)) (gR P)))))
theorem kFZ_ok {P : GD} {m d : Nat} (h : kFZ P m d = true) : FZ P := by
  obtain ⟨h1, h⟩ := and2 h
  obtain ⟨h2, h⟩ := and2 h
  obtain ⟨h3, h⟩ := and2 h
  obtain ⟨h4, h⟩ := and2 h
  obtain ⟨h5, h6⟩ := and2 h
  refine ⟨kFK_ok h1, kFO_ok h2, kFB_ok h3, kFQ_ok h4, ⟨_, kFI_ok (kFK_ok h1) h5⟩, fun s t a b c => ?_⟩
  rcases or2 (allB_at (allB_at h6 s a) t b) with e | e
  · exact absurd (beq_eq e) c
  · exact ble_le e

