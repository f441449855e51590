def muN (P : GD) (TT z h : Nat) : Nat := if Nat.blt (gL P z) (gL P h) && Nat.beq ((gL P h - gL P z) % 2) 1 then tB P TT z h ((gL P h - gL P z - 1) / 2) else 0
theorem muN_T (P : GD) (TT z h : Nat) : muT P (tT P TT) z h = ((muN P TT z h : Nat) : Int) := by
  rw [muT, muN]
  by_cases e : gL P z < gL P h ∧ (gL P h - gL P z) % 2 = 1
  · have e2 : (Nat.blt (gL P z) (gL P h) && Nat.beq ((gL P h - gL P z) % 2) 1) = true := by
      rw [blt_dec, decide_eq_true e.1, e.2]; rfl
    rw [if_pos e, if_pos e2, tT]
  · have e2 : ¬ ((Nat.blt (gL P z) (gL P h) && Nat.beq ((gL P h - gL P z) % 2) 1) = true) := fun q => e ⟨blt_lt (and2 q).1, beq_eq (and2 q).2⟩
    rw [if_neg e, if_neg e2]; rfl
theorem muN_lt (P : GD) (TT z h : Nat) : muN P TT z h < 2 := by
  rw [muN]; split
  · exact tB_lt _ _ _ _ _
  · decide
def tzN (P : GD) (TT w a k z : Nat) : Nat := if (gD P z).testBit a && (Nat.ble a z && Nat.ble (pw P w z) k) then tB P TT a z (k - pw P w z) else 0
def czN (P : GD) (TT h s z : Nat) : Bool := (gE P z).testBit s && !(Nat.beq (muN P TT z h) 0)
def s2N (P : GD) (TT w h s a k : Nat) : Nat → Nat
  | 0 => 0
  | z + 1 => s2N P TT w h s a k z + (if czN P TT h s z then tzN P TT w a k z else 0)
def sz (P : GD) (TT w a k : Nat) : List Nat → Nat
  | [] => 0
  | z :: l => tzN P TT w a k z + sz P TT w a k l
def zLK (P : GD) (TT h s : Nat) (K : List Nat → Bool) : Nat → List Nat → Bool
  | 0, l => K l
  | z + 1, l => if czN P TT h s z then zLK P TT h s K z (z :: l) else zLK P TT h s K z l
theorem zLK_ok {P : GD} {TT w h s : Nat} {K : List Nat → Bool} : ∀ z l, zLK P TT h s K z l = true → ∃ l2, K l2 = true ∧ ∀ a k, sz P TT w a k l2 = sz P TT w a k l + s2N P TT w h s a k z := by
  intro z
  induction z with
  | zero => intro l hh; exact ⟨l, hh, fun a k => rfl⟩
  | succ z ih =>
    intro l hh
    rw [zLK] at hh
    by_cases hc : czN P TT h s z = true
    · rw [if_pos hc] at hh
      obtain ⟨l2, a1, a2⟩ := ih _ hh
      refine ⟨l2, a1, fun a k => ?_⟩
      rw [a2 a k, sz, s2N, if_pos hc]; omega
    · rw [if_neg hc] at hh
      obtain ⟨l2, a1, a2⟩ := ih _ hh
      refine ⟨l2, a1, fun a k => ?_⟩
      rw [a2 a k, s2N, if_neg hc]; omega
theorem s2_N {P : GD} {TT w h s a k : Nat} (ha : (gE P a).testBit s = true) : ∀ z, s2 P (tT P TT) w h s a k z = -((s2N P TT w h s a k z : Nat) : Int) := by
  intro z
  induction z with
  | zero => rfl
  | succ z ih =>
    rw [s2, s2N, ih, tz, muN_T]
    have hm := muN_lt P TT z h
    by_cases hc : czN P TT h s z = true
    · have hc2 := and2 hc
      have hm1 : muN P TT z h = 1 := by
        have : ¬ muN P TT z h = 0 := fun q => by have := hc2.2; rw [q] at this; exact absurd this (by decide)
        omega
      rw [if_pos hc, tzN]
      by_cases hd : (gD P z).testBit a = true ∧ a ≤ z
      · rw [if_pos (show (gE P z).testBit s = true ∧ ((muN P TT z h : Nat) : Int) ≠ 0 ∧ (gE P a).testBit s = true ∧ (gD P z).testBit a = true ∧ a ≤ z from ⟨hc2.1, by omega, ha, hd.1, hd.2⟩)]
        by_cases hk : pw P w z ≤ k
        · have e2 : ((gD P z).testBit a && (Nat.ble a z && Nat.ble (pw P w z) k)) = true := by rw [hd.1, Nat.ble_eq_true_of_le hd.2, Nat.ble_eq_true_of_le hk]; rfl
          rw [if_pos hk, if_pos e2, hm1, tT]; omega
        · have e2 : ¬ (((gD P z).testBit a && (Nat.ble a z && Nat.ble (pw P w z) k)) = true) := fun q => hk (ble_le (and2 (and2 q).2).2)
          rw [if_neg hk, if_neg e2]; omega
      · have e2 : ¬ (((gD P z).testBit a && (Nat.ble a z && Nat.ble (pw P w z) k)) = true) := fun q => hd ⟨(and2 q).1, ble_le (and2 (and2 q).2).1⟩
        rw [if_neg (show ¬ ((gE P z).testBit s = true ∧ ((muN P TT z h : Nat) : Int) ≠ 0 ∧ (gE P a).testBit s = true ∧ (gD P z).testBit a = true ∧ a ≤ z) from fun q => hd q.2.2.2), if_neg e2]; omega
    · rw [if_neg hc, if_neg (show ¬ ((gE P z).testBit s = true ∧ ((muN P TT z h : Nat) : Int) ≠ 0 ∧ (gE P a).testBit s = true ∧ (gD P z).testBit a = true ∧ a ≤ z) from fun q => hc ?_)]
      · omega
      · rw [czN, q.1]
        cases hb : Nat.beq (muN P TT z h) 0 with
        | false => rfl
        | true => exact absurd (by rw [beq_eq hb]; rfl) q.2.1
theorem s2_no {P : GD} {T : PT} {w h s a k : Nat} (ha : (gE P a).testBit s = false) : ∀ z, s2 P T w h s a k z = 0 := by
  intro z
  induction z with
  | zero => rfl
  | succ z ih =>
    rw [s2, ih, tz, if_neg (show ¬ ((gE P z).testBit s = true ∧ muT P T z h ≠ 0 ∧ (gE P a).testBit s = true ∧ (gD P z).testBit a = true ∧ a ≤ z) from fun q => by rw [ha] at q; exact absurd q.2.2.1 (by decide))]; rfl
def kHa (P : GD) (TT w h s dw : Nat) (l : List Nat) (a : Nat) : Bool :=
  if (gE P a).testBit s then allB (fun k => Nat.beq (tB P TT a w k + sz P TT w a k l) (if dw.testBit a then tB P TT (gS P a s) h k + (if Nat.beq k 0 then 0 else tB P TT a h (k - 1)) else 0)) 8
  else frc (gS P a s) (fun b => allB (fun k => Nat.beq (tB P TT a w k) (if (gE P b).testBit s && dw.testBit b then tB P TT b w k else 0)) 8)
def kHT (P : GD) (TT : Nat) : Bool := allB (fun w => if Nat.beq w 0 then allB (fun v => Nat.beq (tB P TT v 0 1) 0 && Nat.beq (tB P TT v 0 2) 0) (gN P) else frc (gH P w) (fun h => frc (gA P w) (fun s => frc (gD P w) (fun dw => zLK P TT h s (fun l => allB (fun a => kHa P TT w h s dw l a) (gN P)) h [])))) (gN P)
theorem kHT_ok {P : GD} {TT : Nat} (hV : GV P) (hC : GC P) (hs : hSi P) (hB : hBr P) (hBt : hBt P) (h : kHT P TT = true) : HT P (tT P TT) := by
  refine HT_of hV hC hs (fun v k hv hk => ?_) (fun v w k hv hw hk => ?_) (fun w h0 hw a k ha hk => ?_)
  · have q := allB_at h 0 (by omega)
    rw [if_pos (by rfl)] at q
    have q := allB_at q v hv
    by_cases e : k = 0
    · rw [e, tT, tB_0, hB.2.2.1 v hv]
      by_cases ev : v = 0
      · rw [if_pos (decide_eq_true ev), if_pos ⟨ev, rfl⟩]; rfl
      · rw [if_neg (by rw [decide_eq_false ev]; decide), if_neg (fun z => ev z.1)]; rfl
    · rw [if_neg (fun z => e z.2), tT, tB_zero q k (by omega)]; rfl
  · have := tB_lt P TT v w k
    rw [tT]; omega
  · have q := allB_at h w hw
    have hw0 : ¬ Nat.beq w 0 = true := fun z => by have := beq_eq z; omega
    rw [if_neg hw0, frc_eq, frc_eq, frc_eq] at q
    obtain ⟨l, k1, k2⟩ := zLK_ok (w := w) _ _ q
    have hA := (hV.2.2.1 w hw).2.2.1
    have pos : ∀ a, a < gN P → (gE P a).testBit (gA P w) = true → C2 P (tT P TT) w (gH P w) (gA P w) (gH P w) a k = tT P TT a w k := by
      intro a ha hb
      have e := allB_at k1 a ha
      rw [kHa, if_pos hb] at e
      have e := beq_eq (allB_at e k hk)
      rw [k2 a k, sz, Nat.zero_add] at e
      rw [C2, s2_N hb, C1]
      by_cases hd : (gD P w).testBit a = true
      · have := hBt.2.2 a w ha hw hd
        rw [if_pos (show a < w + 1 ∧ (gE P a).testBit (gA P w) = true ∧ (gD P w).testBit a = true from ⟨by omega, hb, hd⟩)]
        rw [if_pos hd] at e
        by_cases hk0 : k = 0
        · subst hk0
          rw [if_pos (by rfl)] at e
          rw [if_neg (by omega), tT, tT]; omega
        · have : ¬ Nat.beq k 0 = true := fun z => hk0 (beq_eq z)
          rw [if_neg this] at e
          rw [if_pos (by omega), tT, tT, tT]; omega
      · rw [if_neg (show ¬ (a < w + 1 ∧ (gE P a).testBit (gA P w) = true ∧ (gD P w).testBit a = true) from fun z => hd z.2.2)]
        rw [if_neg hd] at e
        rw [tT]; omega
    rw [C3]
    by_cases hb : (gE P a).testBit (gA P w) = true
    · rw [pos a ha hb, if_neg (show ¬ ((gE P a).testBit (gA P w) = false ∧ gS P a (gA P w) < w + 1 ∧ (gE P (gS P a (gA P w))).testBit (gA P w) = true ∧ (gD P w).testBit (gS P a (gA P w)) = true) from fun z => by rw [hb] at z; exact absurd z.1 (by decide)), Int.add_zero]
    · have hb' : (gE P a).testBit (gA P w) = false := by simpa using hb
      have hS := hV.2.2.2.1 a _ ha hA
      have e := allB_at k1 a ha
      rw [kHa, if_neg hb, frc_eq] at e
      have e := beq_eq (allB_at e k hk)
      have c2 : C2 P (tT P TT) w (gH P w) (gA P w) (gH P w) a k = 0 := by
        rw [C2, s2_no hb', C1, if_neg (show ¬ (a < w + 1 ∧ (gE P a).testBit (gA P w) = true ∧ (gD P w).testBit a = true) from fun z => hb z.2.1)]; rfl
      rw [c2, Int.zero_add]
      by_cases hd : (gE P (gS P a (gA P w))).testBit (gA P w) = true ∧ (gD P w).testBit (gS P a (gA P w)) = true
      · have := hBt.2.2 _ w hS hw hd.2
        rw [if_pos (show (gE P a).testBit (gA P w) = false ∧ gS P a (gA P w) < w + 1 ∧ (gE P (gS P a (gA P w))).testBit (gA P w) = true ∧ (gD P w).testBit (gS P a (gA P w)) = true from ⟨hb', by omega, hd⟩), pos _ hS hd.1, tT, tT]
        rw [if_pos (by rw [hd.1, hd.2]; rfl)] at e
        rw [e]
      · rw [if_neg (show ¬ ((gE P a).testBit (gA P w) = false ∧ gS P a (gA P w) < w + 1 ∧ (gE P (gS P a (gA P w))).testBit (gA P w) = true ∧ (gD P w).testBit (gS P a (gA P w)) = true) from fun z => hd z.2.2), tT]
        rw [if_neg (fun z => hd (and2 z))] at e
        rw [e]; rfl
/-- all that is asked of a group, with P's table -/
def GF (P : GD) (T : PT) : Prop := GK P ∧ hLa P ∧ GP P T ∧ hP0 P T ∧ HT P T
def kRP (P : GD) (TT : Nat) : Bool := kHT P TT && bldR P (fun l => kRl P l && kPp P TT l) (gN P) 0 []
theorem GF_ok {P : GD} {TT : Nat} (h1 : kCh P = true) (h2 : kMe P = true) (h3 : kRP P TT = true) : GF P (tT P TT) := by
  have g := kCh_ok h1
  obtain ⟨hV, hC, hd, hs, hO, hm, hS, hB, hBt, hN⟩ := g
  obtain ⟨q1, q2⟩ := and2 h3
  obtain ⟨l, q3⟩ := bldR_ex _ _ _ q2
  obtain ⟨q4, q5⟩ := and2 q3
  obtain ⟨r1, r2⟩ := kRl_ok hC hV hs hB q4
  obtain ⟨p1, p2⟩ := kPp_ok hBt hV r1 q5
  exact ⟨kCh_ok h1, kMe_ok hN (GV_N hV) hC hB h2, ⟨hB, r2, p1⟩, p2, kHT_ok hV hC hs hB hBt q1⟩
