/-! THE TAPE behind feed, on both sides -/
def sel5 (a b d e f : Int) (k : Nat) : Int := if k = 0 then a else if k = 1 then b else if k = 2 then d else if k = 3 then e else f
def nb2 (nb : Nat → Nat) (n : Nat) (a b d e f : Int) : Nat → Nat := fun i => if n ≤ i ∧ i < n + 20 then byN (sel5 a b d e f ((i - n) / 4)) (24 - 8 * ((i - n) % 4)) else nb i
theorem nb2_lt {nb : Nat → Nat} {n : Nat} {a b d e f : Int} (h : ∀ i, nb i < 256) : ∀ i, nb2 nb n a b d e f i < 256 := by
  intro i
  unfold nb2
  split
  · exact byN_lt _ _
  · exact h i
theorem ref_byte (z : Int) {k : Nat} (hk : k < 4) : and32 (ushr32 z ((24 - 8 * k : Nat) : Int)) 255 = ((byN z (24 - 8 * k) : Nat) : Int) := by
  obtain rfl | rfl | rfl | rfl : k = 0 ∨ k = 1 ∨ k = 2 ∨ k = 3 := by omega
  · exact ref_byte_24 z
  · exact ref_byte_16 z
  · exact ref_byte_8 z
  · exact ref_byte_0 z
theorem fv5_sel (F : Nat → Int) (a b d e f : Int) {k : Nat} (hk : k < 5) : fv5 F a b d e f k = sel5 a b d e f k := by
  obtain rfl | rfl | rfl | rfl | rfl : k = 0 ∨ k = 1 ∨ k = 2 ∨ k = 3 ∨ k = 4 := by omega
  all_goals rfl
theorem ref_feed {nb : Nat → Nat} {T : Nat → Int} {n : Nat} {a b d e f : Int} {i : Nat} (h : T i = ((nb i : Nat) : Int)) : fdT (btF (fv5 (fun _ => 0) a b d e f)) n 20 0 T i = ((nb2 nb n a b d e f i : Nat) : Int) := by
  rw [fdT_at]
  unfold nb2
  by_cases c : n ≤ i ∧ i < n + 20
  · rw [if_pos (by omega), if_pos c, btF, ref_byte _ (Nat.mod_lt _ (by decide)), fv5_sel _ _ _ _ _ _ (by omega)]
  · rw [if_neg (by omega), if_neg c]
    exact h
theorem m_put_row (c : Nat → Nat → Int) (n : Nat) (z : Int) (i : Nat) : m_put c n z 2 i = if n ≤ i ∧ i < n + 4 then sb (byN z (24 - 8 * (i - n))) else c 2 i := by
  have e0 : b8 (b8 (shr32 z 24)) = sb (byN z 24) := by rw [cls_byte_24, b8_sb (byN_lt _ _)]
  have e1 : b8 (b8 (shr32 z 16)) = sb (byN z 16) := by rw [cls_byte_16, b8_sb (byN_lt _ _)]
  have e2 : b8 (b8 (shr32 z 8)) = sb (byN z 8) := by rw [cls_byte_8, b8_sb (byN_lt _ _)]
  have e3 : b8 (b8 (shr32 z 0)) = sb (byN z 0) := by rw [cls_byte_0, b8_sb (byN_lt _ _)]
  by_cases c1 : n ≤ i ∧ i < n + 4
  · rw [if_pos c1]
    obtain rfl | rfl | rfl | rfl : i = n ∨ i = n + 1 ∨ i = n + 1 + 1 ∨ i = n + 1 + 1 + 1 := by omega
    · have k : 24 - 8 * (i - i) = 24 := by omega
      rw [k, ← e0]
      have g3 : i ≠ i + 1 + 1 + 1 := by omega
      have g2 : i ≠ i + 1 + 1 := by omega
      simp [m_put, up2, g3, g2]
    · have k : 24 - 8 * (n + 1 - n) = 16 := by omega
      rw [k, ← e1]
      simp [m_put, up2]
    · have k : 24 - 8 * (n + 1 + 1 - n) = 8 := by omega
      rw [k, ← e2]
      simp [m_put, up2]
    · have k : 24 - 8 * (n + 1 + 1 + 1 - n) = 0 := by omega
      rw [k, ← e3]
      simp [m_put, up2]
  · rw [if_neg c1]
    have h0 : i ≠ n := by omega
    have h1 : i ≠ n + 1 := by omega
    have h2 : i ≠ n + 1 + 1 := by omega
    have h3 : i ≠ n + 1 + 1 + 1 := by omega
    simp [m_put, up2, h0, h1, h2, h3]
theorem cls_feed {nb : Nat → Nat} {c : Nat → Nat → Int} {n : Nat} {a b d e f : Int} {i : Nat} (h : c 2 i = sb (nb i)) : m_feed c n a b d e f 2 i = sb (nb2 nb n a b d e f i) := by
  unfold m_feed nb2
  simp only [m_put_row]
  by_cases c5 : n + 16 ≤ i ∧ i < n + 20
  · have k1 : (i - n) / 4 = 4 := by omega
    have k2 : (i - n) % 4 = i - (n + 16) := by omega
    rw [if_pos (by omega), if_pos (by omega), k1, k2]
    rfl
  · rw [if_neg (by omega)]
    by_cases c4 : n + 12 ≤ i ∧ i < n + 16
    · have k1 : (i - n) / 4 = 3 := by omega
      have k2 : (i - n) % 4 = i - (n + 12) := by omega
      rw [if_pos (by omega), if_pos (by omega), k1, k2]
      rfl
    · rw [if_neg (by omega)]
      by_cases c3 : n + 8 ≤ i ∧ i < n + 12
      · have k1 : (i - n) / 4 = 2 := by omega
        have k2 : (i - n) % 4 = i - (n + 8) := by omega
        rw [if_pos (by omega), if_pos (by omega), k1, k2]
        rfl
      · rw [if_neg (by omega)]
        by_cases c2 : n + 4 ≤ i ∧ i < n + 8
        · have k1 : (i - n) / 4 = 1 := by omega
          have k2 : (i - n) % 4 = i - (n + 4) := by omega
          rw [if_pos (by omega), if_pos (by omega), k1, k2]
          rfl
        · rw [if_neg (by omega)]
          by_cases c1 : n ≤ i ∧ i < n + 4
          · have k1 : (i - n) / 4 = 0 := by omega
            have k2 : (i - n) % 4 = i - n := by omega
            rw [if_pos c1, if_pos (by omega), k1, k2]
            rfl
          · rw [if_neg c1, if_neg (by omega)]
            exact h
theorem m_feed_off (c : Nat → Nat → Int) (n : Nat) (a b d e f : Int) {q k : Nat} (h : q ≠ 1 ∧ q ≠ 2) : m_feed c n a b d e f q k = c q k := by
  unfold m_feed
  rw [m_put_off _ _ _ _ _ h, m_put_off _ _ _ _ _ h, m_put_off _ _ _ _ _ h, m_put_off _ _ _ _ _ h, m_put_off _ _ _ _ _ h]
theorem m_feed_n (c : Nat → Nat → Int) (n : Nat) (a b d e f : Int) : m_feed c n a b d e f 1 1 = ((n + 20 : Nat) : Int) := m_put_size _ _ _

