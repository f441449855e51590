def t3a (a : Nat) : Bool := allR (fun b => bif Nat.ble a b then allR (fun c => bif Nat.ble b c then (bif g3c a b c then true else ck3 a b c) else true) else true)
theorem kT3_2 : t3a 2 = true := by decide +kernel
theorem kT3_3 : t3a 3 = true := by decide +kernel
theorem kT3_4 : t3a 4 = true := by decide +kernel
theorem kT3_5 : t3a 5 = true := by decide +kernel
theorem kT3_6 : t3a 6 = true := by decide +kernel
theorem kT3_7 : t3a 7 = true := by decide +kernel
theorem kT3_8 : t3a 8 = true := by decide +kernel
theorem kT3_9 : t3a 9 = true := by decide +kernel
theorem kT3_10 : t3a 10 = true := by decide +kernel
theorem kT3_11 : t3a 11 = true := by decide +kernel
theorem kT3_12 : t3a 12 = true := by decide +kernel
theorem ble_t {a b : Nat} (h : a ≤ b) : Nat.ble a b = true := Nat.ble_eq_true_of_le h
theorem T3_ok : T3p := by
  intro a b c ha hb hc h1 h2 hg
  have q : t3a a = true := by
    obtain rfl | rfl | rfl | rfl | rfl | rfl | rfl | rfl | rfl | rfl | rfl : a = 2 ∨ a = 3 ∨ a = 4 ∨ a = 5 ∨ a = 6 ∨ a = 7 ∨ a = 8 ∨ a = 9 ∨ a = 10 ∨ a = 11 ∨ a = 12 := by
      have := ha.1; have := ha.2; omega
    · exact kT3_2
    · exact kT3_3
    · exact kT3_4
    · exact kT3_5
    · exact kT3_6
    · exact kT3_7
    · exact kT3_8
    · exact kT3_9
    · exact kT3_10
    · exact kT3_11
    · exact kT3_12
  unfold t3a at q
  have q := allR_at q hb
  rw [ble_t h1, cond_true] at q
  have q := allR_at q hc
  rw [ble_t h2, cond_true, hg, cond_false] at q
  exact q

