/-! THE LAW'S INVARIANT, in parts -/
def I_T (c : Nat → Nat → Int) (n : Nat) (nb : Nat → Nat) : Prop := (c 1 1 = ((n : Nat) : Int) ∧ c 49 1 = ((n : Nat) : Int) ∧ n ≤ 300) ∧ (∀ i, nb i < 256) ∧ ∀ i, i < 300 → c 2 i = sb (nb i) ∧ c 50 i = ((nb i : Nat) : Int)
def I_P (c : Nat → Nat → Int) : Prop := (∃ (tk tf tt rr ll ff : Nat) (bd : Nat → Nat), (c 1 2 = (tk : Int) ∧ c 1 3 = (tf : Int) ∧ c 1 4 = (tt : Int)) ∧ (c 3 1 = (rr : Int) ∧ c 3 2 = (ll : Int) ∧ c 3 3 = (ff : Int)) ∧ ∀ i, i < 25 → c 4 i = ((bd i : Nat) : Int)) ∧ c 3 3 = c 49 2 ∧ c 3 4 = c 49 3
def I_R (c : Nat → Nat → Int) (rk ln : Nat) (bo : Nat → Nat) : Prop := (∃ (fk : Nat) (fp : Int), RMx c fk fp rk ln bo) ∧ ∃ (im : Nat → Nat) (bh : Nat → Nat) (ah : Nat → Nat) (lo : Nat → Nat) (fr : Nat → Nat) (la : Nat → Nat) (bk : Nat → Nat) (mo : Nat → Nat) (sp : Nat → Int) (mm : Nat) (nn : Nat) (tp : Nat) (hb : Bool), LMc c im bh ah lo fr la bk mo sp mm nn tp hb
def I_E (c : Nat → Nat → Int) : Prop := EMk c 21 ∧ EMk c 35
def I_G (c : Nat → Nat → Int) (nw nx : Nat) (P : GD) (T : PT) (ln : Nat) (bo : Nat → Nat) : Prop := ((nw = 21 ∧ nx = 35) ∨ (nw = 35 ∧ nx = 21)) ∧ STP P ln ∧ FCT P T ∧ (∀ s t, s < gR P → t < gR P → bo (5 * s + t) = gBd P s t) ∧ (∀ i, i < 25 → bo i < 100) ∧ EL c nw P ∧ ML c P ∧ c 0 10 = ((ln : Nat) : Int)
def I_Q (c : Nat → Nat → Int) (P : GD) (T : PT) : Prop := PR P T c ∧ CR P T c ∧ RR P T c
/-- one row of marks: a set, how many acts, the sets before -/
def MK1 (T A : Nat) (f : Nat → Int) : Prop := T < 2 ^ 60 ∧ A ≤ 30 ∧ (A = 0 → T = 0) ∧ (0 < A → f 0 = 0) ∧ ∀ i, i < A → ∃ t : Nat, t < 2 ^ 60 ∧ f i = ((t : Nat) : Int)
def I_M (c : Nat → Nat → Int) (T A : Nat) : Prop := MK1 T A (c 16) ∧ (c 15 4 = ((T : Nat) : Int) ∧ c 15 5 = ((A : Nat) : Int) ∧ c 49 38 = ((T : Nat) : Int) ∧ c 49 39 = ((A : Nat) : Int)) ∧ (∀ i, i < A → c 73 i = c 16 i) ∧
  ∀ q, q < 3 → (c 19 q = -1 ∧ c 77 q = 0) ∨ (c 77 q = 1 ∧ ∃ T2 A2 : Nat, MK1 T2 A2 (fun i => c 17 (30 * q + i)) ∧ c 19 q = ((A2 : Nat) : Int) ∧ c 75 q = ((A2 : Nat) : Int) ∧ c 18 q = ((T2 : Nat) : Int) ∧ c 74 q = ((T2 : Nat) : Int) ∧ ∀ i, i < A2 → c 76 (30 * q + i) = c 17 (30 * q + i))
/-- only the reference's scratch, its tables of pairs and the marks of both sides have changed -/
def SK (c c2 : Nat → Nat → Int) : Prop := (∀ a, (a < 15 ∨ (19 < a ∧ a < 49) ∨ (49 < a ∧ a < 61) ∨ 77 < a) → c2 a = c a) ∧ ∀ k, k ≠ 24 → k ≠ 27 → k ≠ 38 → k ≠ 39 → c2 49 k = c 49 k
theorem SK_SD {c c2 : Nat → Nat → Int} (h : SD c c2) : SK c c2 := ⟨fun a ha => h.1 a (by omega), fun k h1 h2 _ _ => h.2 k h1 h2⟩
theorem ML_SK {c c2 : Nat → Nat → Int} {P : GD} (h : ML c P) (s : SK c c2) : ML c2 P := by
  unfold ML
  rw [s.2 4 (by decide) (by decide) (by decide) (by decide), s.2 22 (by decide) (by decide) (by decide) (by decide), s.2 21 (by decide) (by decide) (by decide) (by decide), s.2 23 (by decide) (by decide) (by decide) (by decide), s.2 5 (by decide) (by decide) (by decide) (by decide), s.1 51 (by omega), s.1 54 (by omega), s.1 55 (by omega), s.1 56 (by omega), s.1 57 (by omega), s.1 58 (by omega), s.1 59 (by omega), s.1 60 (by omega)]
  exact h
theorem I_T_SK {c c2 : Nat → Nat → Int} {n : Nat} {nb : Nat → Nat} (h : I_T c n nb) (s : SK c c2) : I_T c2 n nb := by
  obtain ⟨⟨h1, h2, h3⟩, h4, h5⟩ := h
  refine ⟨⟨?_, ?_, h3⟩, h4, fun i hi => ?_⟩
  · rw [s.1 1 (by omega)]; exact h1
  · rw [s.2 1 (by decide) (by decide) (by decide) (by decide)]; exact h2
  · rw [s.1 2 (by omega), s.1 50 (by omega)]; exact h5 i hi
theorem I_P_SK {c c2 : Nat → Nat → Int} (h : I_P c) (s : SK c c2) : I_P c2 := by
  obtain ⟨h1, h2, h3⟩ := h
  refine ⟨?_, ?_, ?_⟩
  · rw [s.1 1 (by omega), s.1 3 (by omega), s.1 4 (by omega)]; exact h1
  · rw [s.1 3 (by omega), s.2 2 (by decide) (by decide) (by decide) (by decide)]; exact h2
  · rw [s.1 3 (by omega), s.2 3 (by decide) (by decide) (by decide) (by decide)]; exact h3
theorem I_E_SK {c c2 : Nat → Nat → Int} (h : I_E c) (s : SK c c2) : I_E c2 := ⟨EMk_same h.1 (fun q hq => s.1 _ (by omega)), EMk_same h.2 (fun q hq => s.1 _ (by omega))⟩
theorem I_M_SD {c c2 : Nat → Nat → Int} {T A : Nat} (h : I_M c T A) (s : SD c c2) : I_M c2 T A := by
  unfold I_M
  rw [s.1 16 (by omega), s.1 15 (by omega), s.2 38 (by decide) (by decide), s.2 39 (by decide) (by decide), s.1 73 (by omega), s.1 19 (by omega), s.1 77 (by omega), s.1 17 (by omega), s.1 75 (by omega), s.1 18 (by omega), s.1 74 (by omega), s.1 76 (by omega)]
  exact h

theorem I_R_SK {c c2 : Nat → Nat → Int} {rk ln : Nat} {bo : Nat → Nat} (h : I_R c rk ln bo) (s : SK c c2) (hr : c2 49 24 = 0 ∨ c2 49 24 = 1) : I_R c2 rk ln bo := by
  obtain ⟨⟨fk, fp, bw, ra, rb, rt, rv, rz, ⟨r1, r2, r3, r4, r5, r6, r7, r8, r9⟩, r10, r11⟩, im, bh, ah, lo, fr, la, bk, mo, sp, mm, nn, tp, hb, ⟨l1, l2, l3, l4⟩, l5⟩ := h
  refine ⟨⟨fk, fp, bw, ra, rb, rt, rv, rz, ⟨?_, ?_, ?_, ?_, ?_, ?_, ?_, ?_, ?_⟩, ?_, ?_⟩, im, bh, ah, lo, fr, la, bk, mo, c2 61, mm, nn, tp, decide (c2 49 24 = 1), ⟨?_, ?_, ?_, ?_⟩, fun i => ?_⟩
  · rw [s.2 8 (by decide) (by decide) (by decide) (by decide)]; exact r1
  · rw [s.2 9 (by decide) (by decide) (by decide) (by decide)]; exact r2
  · rw [s.2 10 (by decide) (by decide) (by decide) (by decide)]; exact r3
  · rw [s.2 11 (by decide) (by decide) (by decide) (by decide)]; exact r4
  · rw [s.2 12 (by decide) (by decide) (by decide) (by decide)]; exact r5
  · rw [s.2 2 (by decide) (by decide) (by decide) (by decide)]; exact r6
  · rw [s.2 3 (by decide) (by decide) (by decide) (by decide)]; exact r7
  · rw [s.2 4 (by decide) (by decide) (by decide) (by decide)]; exact r8
  · rw [s.2 5 (by decide) (by decide) (by decide) (by decide)]; exact r9
  · rw [s.1 51 (by omega)]; exact r10
  · rw [s.1 52 (by omega)]; exact r11
  · rw [s.2 21 (by decide) (by decide) (by decide) (by decide)]; exact l1
  · rw [s.2 22 (by decide) (by decide) (by decide) (by decide)]; exact l2
  · rw [s.2 23 (by decide) (by decide) (by decide) (by decide)]; exact l3
  · rcases hr with q | q <;> rw [q] <;> rfl
  · obtain ⟨b1, b2, b3, b4, b5, b6, b7, b8, b9⟩ := l5 i
    rw [s.1 53 (by omega), s.1 54 (by omega), s.1 55 (by omega), s.1 56 (by omega), s.1 57 (by omega), s.1 58 (by omega), s.1 59 (by omega), s.1 60 (by omega)]
    exact ⟨b1, b2, b3, b4, b5, b6, b7, b8, rfl⟩
theorem I_G_SK {c c2 : Nat → Nat → Int} {nw nx : Nat} {P : GD} {T : PT} {ln : Nat} {bo : Nat → Nat} (h : I_G c nw nx P T ln bo) (s : SK c c2) : I_G c2 nw nx P T ln bo := by
  obtain ⟨h1, h2, h3, h4, h5, h6, h7, h8⟩ := h
  refine ⟨h1, h2, h3, h4, h5, EL_same h6 (fun q hq => s.1 _ (by omega)), ML_SK h7 s, ?_⟩
  rw [s.1 0 (by omega)]; exact h8

