/-- otherSide, reckoned over the finished table: 0: none, v + 1: v, 100: it would meet the new element on its way up -/
def oU (P : GD) (x s t : Nat) : Nat → Nat → Nat → Nat
  | 0, _, a => a + 1
  | k + 1, l, a => if gS P a l < x then oU P x s t k (s + t - l) (gS P a l) else if gS P a l = x then 100 else 0
def oD (P : GD) (x s t m : Nat) : Nat → Nat → Nat → Nat
  | 0, l, f => oU P x s t m l f
  | k + 1, l, f => if gS P f l < x then (if gL P f < gL P (gS P f l) then 0 else oD P x s t m k (s + t - l) (gS P f l)) else 0
def FO (P : GD) : Prop :=
  (gH P 0 = 0 ∧ gA P 0 = 0) ∧ (∀ x s, x < gN P → s < gR P → gS P x s ≠ x ∧ (x < gS P x s → gL P x < gL P (gS P x s)) ∧ gS P (gS P x s) s = x) ∧
  (∀ y t, 0 < y → y < gN P → t < gR P → t ≠ gA P y → oD P y (gA P y) t (gB P (gA P y) t - 1) (gB P (gA P y) t - 1) t (gH P y) = if gS P y t < y then gS P y t + 1 else 0)
def dec (z : Nat) : Int := if z = 0 then -1 else ((z - 1 : Nat) : Int)
def SGa (P : GD) (x s t : Nat) (st : Nat → Int) : Prop := ∀ a b, a < x → b < gR P → st (a * 5 + b) = if gS P a b < x then ((gS P a b : Nat) : Int) else if gS P a b = x ∧ (b = s ∨ b < t) then ((x : Nat) : Int) else -1
def SGb (P : GD) (x s t : Nat) (st : Nat → Int) : Prop := ∀ b, b < gR P → st (x * 5 + b) = if gS P x b < x ∧ (b = s ∨ b < t) then ((gS P x b : Nat) : Int) else -1
theorem osU_o {P : GD} {x s t u : Nat} {st : Nat → Int} (h : SGa P x s u st) (hs : s < gR P) (ht : t < gR P) : ∀ k l a, (l = s ∨ l = t) → a < x → oU P x s t k l a ≠ 100 → osU st s t k l a = dec (oU P x s t k l a) := by
  intro k
  induction k with
  | zero => intro l a _ _ _; simp [osU, oU, dec]
  | succ k ih =>
    intro l a hl ha
    have e := h a l ha (by omega)
    unfold oU osU
    by_cases c1 : gS P a l < x
    · rw [if_pos c1] at e
      rw [if_pos c1, e, if_neg (by omega), Int.toNat_natCast]
      exact ih _ _ (by omega) c1
    · rw [if_neg c1] at e
      rw [if_neg c1]
      by_cases c2 : gS P a l = x
      · rw [if_pos c2]; intro q; exact absurd rfl q
      · rw [if_neg (fun q => c2 q.1)] at e
        rw [if_neg c2, if_pos e]; intro _; rfl
theorem osD_o {P : GD} {x s t u m : Nat} {st : Nat → Int} {le : Nat → Nat} (h : SGa P x s u st) (hs : s < gR P) (ht : t < gR P) (hx : x < gN P) (hle : ∀ a, a ≤ x → le a = gL P a) (hO : FO P) : ∀ k l a, (l = s ∨ l = t) → a < x → oD P x s t m k l a ≠ 100 → osD st le s t m k l a = dec (oD P x s t m k l a) := by
  intro k
  induction k with
  | zero => intro l a hl ha; exact osU_o h hs ht m l a hl ha
  | succ k ih =>
    intro l a hl ha
    have e := h a l ha (by omega)
    have f := hO.2.1 a l (by omega) (by omega)
    unfold oD osD
    by_cases c1 : gS P a l < x
    · rw [if_pos c1] at e
      rw [if_pos c1, e, if_neg (show ¬ (((gS P a l : Nat) : Int) = -1) by omega), Int.toNat_natCast, hle a (by omega), hle _ (by omega)]
      by_cases c2 : gL P a < gL P (gS P a l)
      · rw [if_pos c2, if_pos c2]; intro _; rfl
      · rw [if_neg c2, if_neg c2]; exact ih _ _ (by omega) c1
    · rw [if_neg c1] at e
      rw [if_neg c1]
      intro _
      by_cases c2 : gS P a l = x ∧ (l = s ∨ l < u)
      · rw [if_pos c2] at e
        rw [e, if_neg (by omega), Int.toNat_natCast, hle a (by omega), hle x (Nat.le_refl _)]
        have := f.2.1 (by omega)
        rw [c2.1] at this
        rw [if_pos this]; rfl
      · rw [if_neg c2] at e
        rw [if_pos e]; rfl
theorem abL_o {P : GD} {be le : Nat → Nat} {x w s : Nat} (hV : GV P) (hx0 : 0 < x) (hx : x < gN P) (hw : gH P x = w) (hs : gA P x = s) (hwx : w < x) (hle : ∀ a, a ≤ x → le a = gL P a) (hO : FO P) (hbe : ∀ t, t < gR P → t ≠ s → be (s * 5 + t) = gB P s t) : ∀ k t (st : Nat → Int), t + k = gR P → SGa P x s t st → SGb P x s t st → SGa P x s (gR P) (abL be le x w s k t st) ∧ SGb P x s (gR P) (abL be le x w s k t st) := by
  have hsR : s < gR P := by have := (hV.2.2.1 x hx).2.2.1; omega
  have hR := GV_R hV
  intro k
  induction k with
  | zero => intro t st ht h1 h2; have e : t = gR P := by omega
            subst e; exact ⟨h1, h2⟩
  | succ k ih =>
    intro t st ht h1 h2
    have htR : t < gR P := by omega
    refine ih (t + 1) _ (by omega) ?_ ?_
    · unfold abN
      by_cases e1 : t = s
      · rw [if_pos e1]
        intro a b ha hb
        rw [h1 a b ha hb]
        by_cases c1 : gS P a b < x
        · rw [if_pos c1, if_pos c1]
        · rw [if_neg c1, if_neg c1]
          by_cases c2 : gS P a b = x ∧ (b = s ∨ b < t)
          · rw [if_pos c2, if_pos ⟨c2.1, by omega⟩]
          · rw [if_neg c2, if_neg (fun q => c2 ⟨q.1, by have := q.2; omega⟩)]
      · rw [if_neg e1]
        have hf := hO.2.2 x t hx0 hx htR (by omega)
        have hft := hO.2.1 x t hx htR
        rw [hs, hw] at hf
        have hne : oD P x s t (gB P s t - 1) (gB P s t - 1) t w ≠ 100 := by
          rw [hf]; split
          · have := GV_N hV; omega
          · omega
        have ho : oth st le (be (s * 5 + t)) w s t = dec (if gS P x t < x then gS P x t + 1 else 0) := by
          rw [oth, hbe t htR e1, osD_o h1 hsR htR hx hle hO _ t w (Or.inr rfl) hwx hne, hf]
        by_cases c : gS P x t < x
        · rw [if_pos c] at ho
          have ho2 : oth st le (be (s * 5 + t)) w s t = ((gS P x t : Nat) : Int) := by rw [ho]; simp [dec]
          rw [ho2, if_neg (by omega), Int.toNat_natCast]
          intro a b ha hb
          rw [lnk_at st _ t x a b (by omega) (by omega), if_neg (by omega), h1 a b ha hb]
          have hi := hO.2.1 a b (by omega) hb
          by_cases c3 : b = t ∧ a = gS P x t
          · rw [if_pos c3, c3.1, c3.2, hft.2.2, if_neg (by omega), if_pos ⟨rfl, by omega⟩]
          · rw [if_neg c3]
            by_cases c1 : gS P a b < x
            · rw [if_pos c1, if_pos c1]
            · rw [if_neg c1, if_neg c1]
              by_cases c2 : gS P a b = x ∧ (b = s ∨ b < t)
              · rw [if_pos c2, if_pos ⟨c2.1, by omega⟩]
              · rw [if_neg c2, if_neg (fun q => ?_)]
                have hbt : b = t := by
                  have := q.2
                  have : ¬ (b = s ∨ b < t) := fun r => c2 ⟨q.1, r⟩
                  omega
                have := hi.2.2
                rw [q.1, hbt] at this
                exact c3 ⟨hbt, this.symm⟩
        · rw [if_neg c] at ho
          have ho2 : oth st le (be (s * 5 + t)) w s t = -1 := by rw [ho]; rfl
          rw [if_pos ho2]
          intro a b ha hb
          rw [h1 a b ha hb]
          have hi := hO.2.1 a b (by omega) hb
          by_cases c1 : gS P a b < x
          · rw [if_pos c1, if_pos c1]
          · rw [if_neg c1, if_neg c1]
            by_cases c2 : gS P a b = x ∧ (b = s ∨ b < t)
            · rw [if_pos c2, if_pos ⟨c2.1, by omega⟩]
            · rw [if_neg c2, if_neg (fun q => ?_)]
              have hbt : b = t := by
                have := q.2
                have : ¬ (b = s ∨ b < t) := fun r => c2 ⟨q.1, r⟩
                omega
              have := hi.2.2
              rw [q.1, hbt] at this
              omega
    · unfold abN
      by_cases e1 : t = s
      · rw [if_pos e1]
        intro b hb
        rw [h2 b hb]
        by_cases c1 : gS P x b < x ∧ (b = s ∨ b < t)
        · rw [if_pos c1, if_pos ⟨c1.1, by omega⟩]
        · rw [if_neg c1, if_neg (fun q => c1 ⟨q.1, by have := q.2; omega⟩)]
      · rw [if_neg e1]
        have hf := hO.2.2 x t hx0 hx htR (by omega)
        rw [hs, hw] at hf
        have hne : oD P x s t (gB P s t - 1) (gB P s t - 1) t w ≠ 100 := by
          rw [hf]; split
          · have := GV_N hV; omega
          · omega
        have ho : oth st le (be (s * 5 + t)) w s t = dec (if gS P x t < x then gS P x t + 1 else 0) := by
          rw [oth, hbe t htR e1, osD_o h1 hsR htR hx hle hO _ t w (Or.inr rfl) hwx hne, hf]
        by_cases c : gS P x t < x
        · rw [if_pos c] at ho
          have ho2 : oth st le (be (s * 5 + t)) w s t = ((gS P x t : Nat) : Int) := by rw [ho]; simp [dec]
          rw [ho2, if_neg (by omega), Int.toNat_natCast]
          intro b hb
          rw [lnk_at st _ t x x b (by omega) (by omega), h2 b hb]
          by_cases c3 : b = t
          · rw [if_pos ⟨c3, rfl⟩, c3, if_pos ⟨c, by omega⟩]
          · rw [if_neg (fun q => c3 q.1), if_neg (fun q => c3 q.1)]
            by_cases c1 : gS P x b < x ∧ (b = s ∨ b < t)
            · rw [if_pos c1, if_pos ⟨c1.1, by omega⟩]
            · rw [if_neg c1, if_neg (fun q => c1 ⟨q.1, by have := q.2; omega⟩)]
        · rw [if_neg c] at ho
          have ho2 : oth st le (be (s * 5 + t)) w s t = -1 := by rw [ho]; rfl
          rw [if_pos ho2]
          intro b hb
          rw [h2 b hb]
          by_cases c1 : gS P x b < x ∧ (b = s ∨ b < t)
          · rw [if_pos c1, if_pos ⟨c1.1, by omega⟩]
          · rw [if_neg c1, if_neg (fun q => ?_)]
            have : b = t := by
              have := q.2
              have : ¬ (b = s ∨ b < t) := fun r => c1 ⟨q.1, r⟩
              omega
            rw [this] at q
            exact c q.1

def GJ (P : GD) (le hd ls : Nat → Nat) (st : Nat → Int) (mn w s : Nat) : Prop :=
  (1 ≤ mn ∧ mn ≤ gN P) ∧ (∀ y, y < mn → le y = gL P y ∧ hd y = gH P y ∧ ls y = gA P y) ∧
  (∀ x t, x < mn → t < gR P → st (x * 5 + t) = if gS P x t < mn then ((gS P x t : Nat) : Int) else -1) ∧
  (∀ y, 0 < y → y < gN P → (y < mn ↔ 5 * gH P y + gA P y < 5 * w + s))
def FK1 (P : GD) : Prop := (∀ y, 0 < y → y < gN P → gS P (gH P y) (gA P y) = y) ∧ (∀ x s, x < gN P → s < gR P → gS P x s = 0 ∨ 5 * gH P (gS P x s) + gA P (gS P x s) ≤ 5 * x + s) ∧ (∀ y, 0 < y → y + 1 < gN P → 5 * gH P y + gA P y < 5 * gH P (y + 1) + gA P (y + 1))
theorem FK1_key {P : GD} (h : FK1 P) : ∀ k y, 0 < y → y + k + 1 < gN P → 5 * gH P y + gA P y < 5 * gH P (y + k + 1) + gA P (y + k + 1) := by
  intro k
  induction k with
  | zero => intro y h0 h1; exact h.2.2 y h0 h1
  | succ k ih =>
    intro y h0 h1
    exact Nat.lt_trans (ih y h0 (by omega)) (h.2.2 (y + k + 1) (by omega) (by omega))
theorem GJ_1 {P : GD} {le hd ls : Nat → Nat} {st : Nat → Int} {mn w s : Nat} (hV : GV P) (hK : FK1 P) (h : GJ P le hd ls st mn w s) (hw : w < mn) (hs : s < gR P) (hc : st (w * 5 + s) ≠ -1) : GJ P le hd ls st mn w (s + 1) := by
  have hR := GV_R hV
  obtain ⟨g1, g2, g3, g4⟩ := h
  refine ⟨g1, g2, g3, fun y a b => ?_⟩
  have e := g3 w s hw hs
  have c : gS P w s < mn := by
    refine Decidable.byContradiction fun q => ?_
    rw [if_neg q] at e
    exact hc e
  have hz := (hV.2.2.1 y b).2.2.1
  rw [g4 y a b]
  constructor
  · intro q; omega
  · intro q
    refine Decidable.byContradiction fun q2 => ?_
    have k1 : gH P y = w := by omega
    have k2 : gA P y = s := by omega
    have k3 := hK.1 y a b
    rw [k1, k2] at k3
    have := (g4 y a b).mp (by omega)
    omega
theorem GJ_new {P : GD} {le hd ls : Nat → Nat} {st : Nat → Int} {mn w s : Nat} (hV : GV P) (hK : FK1 P) (h : GJ P le hd ls st mn w s) (hw : w < mn) (hs : s < gR P) (hc : st (w * 5 + s) = -1) : gS P w s = mn ∧ mn < gN P ∧ gH P mn = w ∧ gA P mn = s := by
  have hR := GV_R hV
  obtain ⟨g1, g2, g3, g4⟩ := h
  have e := g3 w s hw hs
  have hy0 := hV.2.2.2.1 w s (by omega) hs
  have c : ¬ gS P w s < mn := by
    intro q
    rw [if_pos q] at e
    omega
  have hpos : 0 < gS P w s := by omega
  have k0 : ¬ (5 * gH P (gS P w s) + gA P (gS P w s) < 5 * w + s) := fun q => c ((g4 _ hpos hy0).mpr q)
  have k1 : 5 * gH P (gS P w s) + gA P (gS P w s) = 5 * w + s := by
    rcases hK.2.1 w s (by omega) hs with e | e
    · omega
    · omega
  have ky : gS P w s = mn := by
    refine Decidable.byContradiction fun q => ?_
    have k2 := FK1_key hK (gS P w s - mn - 1) mn (by omega) (by omega)
    rw [show mn + (gS P w s - mn - 1) + 1 = gS P w s by omega] at k2
    have := (g4 mn (by omega) (by omega)).mpr (by omega)
    omega
  have hA := (hV.2.2.1 (gS P w s) hy0).2.2.1
  rw [ky] at k1 hA
  exact ⟨ky, by omega, by omega, by omega⟩
theorem GJ_2 {P : GD} {be le hd ls : Nat → Nat} {st : Nat → Int} {mn w s : Nat} (hV : GV P) (hC : GC P) (hO : FO P) (hK : FK1 P) (hbe : ∀ s t, s < gR P → t < gR P → t ≠ s → be (s * 5 + t) = gB P s t) (h : GJ P le hd ls st mn w s) (hw : w < mn) (hs : s < gR P) (hc : st (w * 5 + s) = -1) : GJ P (uN le mn (le w + 1)) (uN hd mn w) (uN ls mn s) (abS be (uN le mn (le w + 1)) (gR P) mn w s st) (mn + 1) w (s + 1) := by
  have hR := GV_R hV
  obtain ⟨ky, kN, kH, kA⟩ := GJ_new hV hK h hw hs hc
  obtain ⟨g1, g2, g3, g4⟩ := h
  have kL := (hC.2.1.2 mn (by omega) kN).1
  have hle : ∀ a, a ≤ mn → (uN le mn (le w + 1)) a = gL P a := by
    intro a ha
    rw [uN]
    split
    · rename_i e
      rw [e, (g2 w hw).1, ← kL, kH]
    · exact (g2 a (by omega)).1
  have hsw := hO.2.1 w s (by omega) hs
  have hms := hO.2.1 mn s kN hs
  have hws : gS P mn s = w := by rw [← ky]; exact hsw.2.2
  have s0a : SGa P mn s 0 (lnk (n5 st mn) w s mn) := by
    intro a b ha hb
    rw [lnk_at _ w s mn a b (by omega) (by omega), if_neg (show ¬ (b = s ∧ a = mn) by omega), n5_at st mn a b (by omega), if_neg (show ¬ a = mn by omega), g3 a b ha hb]
    have hi := hO.2.1 a b (by omega) hb
    by_cases c1 : b = s ∧ a = w
    · rw [if_pos c1, c1.1, c1.2, ky, if_neg (by omega), if_pos ⟨rfl, Or.inl rfl⟩]
    · rw [if_neg c1]
      by_cases c2 : gS P a b < mn
      · rw [if_pos c2, if_pos c2]
      · rw [if_neg c2, if_neg c2, if_neg (fun q => ?_)]
        have hbs : b = s := by have := q.2; omega
        have := hi.2.2
        rw [q.1, hbs, hws] at this
        exact c1 ⟨hbs, this.symm⟩
  have s0b : SGb P mn s 0 (lnk (n5 st mn) w s mn) := by
    intro b hb
    rw [lnk_at _ w s mn mn b (by omega) (by omega), n5_at st mn mn b (by omega), if_pos rfl]
    by_cases c1 : b = s
    · rw [if_pos ⟨c1, rfl⟩, c1, hws, if_pos ⟨hw, Or.inl rfl⟩]
    · rw [if_neg (fun q => c1 q.1), if_neg (by omega), if_neg (fun q => by have := q.2; omega)]
  obtain ⟨fa, fb⟩ := abL_o hV (by omega) kN kH kA hw hle hO (fun t a b => hbe s t hs a b) (gR P) 0 _ (by omega) s0a s0b
  refine ⟨⟨by omega, by omega⟩, fun y hy => ?_, fun x t hx ht => ?_, fun y a b => ?_⟩
  · by_cases e : y = mn
    · rw [e, hle mn (Nat.le_refl _), uN, if_pos rfl, uN, if_pos rfl, kH, kA]; exact ⟨rfl, rfl, rfl⟩
    · rw [hle y (by omega), uN, if_neg e, uN, if_neg e]
      exact ⟨rfl, (g2 y (by omega)).2⟩
  · by_cases e : x = mn
    · subst e
      have hi := hO.2.1 x t kN ht
      rw [abS, fb t ht]
      by_cases c1 : gS P x t < x
      · rw [if_pos ⟨c1, Or.inr ht⟩, if_pos (by omega)]
      · rw [if_neg (fun q => c1 q.1), if_neg (by have := hi.1; omega)]
    · rw [abS, fa x t (by omega) ht]
      by_cases c1 : gS P x t < mn
      · rw [if_pos c1, if_pos (by omega)]
      · rw [if_neg c1]
        by_cases c2 : gS P x t = mn
        · rw [if_pos ⟨c2, Or.inr ht⟩, if_pos (by omega), c2]
        · rw [if_neg (fun q => c2 q.1), if_neg (by omega)]
  · by_cases e : y = mn
    · rw [e, kH, kA]; omega
    · by_cases e2 : y < mn
      · have := (g4 y a b).mp e2
        omega
      · have k2 := FK1_key hK (y - mn - 1) mn (by omega) (by omega)
        rw [show mn + (y - mn - 1) + 1 = y by omega, kH, kA] at k2
        omega
theorem c_X1_findAll_good {G : GG} {j nw nx gn : Nat} {g : Nat → Sh} {c : Nat → Nat → Int} {post : Option AV → AM → Prop} {e : Nat} {P : GD} {be : Nat → Nat} {pr : Nat → Nat} {iv : Nat → Nat} {fa : Nat → Nat} {eb : Nat → Nat} {ml : Nat → Nat} {mf : Nat → Int} {rw : Nat → Nat} {dn : Nat → Nat} {mm : Nat} {le hd ls : Nat → Nat} {st : Nat → Int} (he : e = 21 ∨ e = 35) (hV : GV P) (hC : GC P) (hO : FO P) (hK : FK1 P) (h0 : 0 < gN P) (hbe : ∀ s t, s < gR P → t < gR P → t ≠ s → be (s * 5 + t) = gB P s t) (hbb : ∀ s t, s < gR P → t < gR P → s ≠ t → 2 ≤ be (s * 5 + t) ∧ be (s * 5 + t) ≤ 12) (K : ∀ (le hd ls : Nat → Nat) (st : Nat → Int), (∀ y, y < gN P → le y = gL P y ∧ hd y = gH P y ∧ ls y = gA P y) → (∀ x t, x < gN P → t < gR P → st (x * 5 + t) = ((gS P x t : Nat) : Int)) → post (some (vi 1)) (S nw nx g, 78 + gn, (em c e be le hd ls st pr iv fa eb ml mf rw dn (gR P) (gN P) mm))) : SM G (j + 4) mX1_findAll [vr (e)] (S nw nx g, 78 + gn, (em c e be le hd ls st pr iv fa eb ml mf rw dn (gR P) 0 mm)) 0 0 post := by
  have hR := GV_R hV
  have hN := GV_N hV
  refine c_X1_findAll (GJ P) he hR hbb ?_ ?_ ?_ ?_ ?_ ?_
  · intro le hd ls st a b d f
    refine ⟨⟨Nat.le_refl _, h0⟩, fun y hy => ?_, fun x t hx ht => ?_, fun y p q => ⟨fun r => by omega, fun r => by omega⟩⟩
    · have e : y = 0 := by omega
      subst e
      exact ⟨a.trans hC.2.1.1.symm, b.trans hO.1.1.symm, d.trans hO.1.2.symm⟩
    · have e : x = 0 := by omega
      subst e
      have := (hO.2.1 0 t (by omega) ht).1
      rw [f t (by omega), if_neg (by omega)]
  · intro le hd ls st mn w s h _ hw hs hc
    exact GJ_1 hV hK h hw hs hc
  · intro le hd ls st mn w s h _ _ hw hs hc
    exact GJ_2 hV hC hO hK hbe h hw hs hc
  · intro le hd ls st mn w h
    refine ⟨h.1, h.2.1, h.2.2.1, fun y a b => ?_⟩
    have := (hV.2.2.1 y b).2.2.1
    rw [h.2.2.2 y a b]
    omega
  · intro le hd ls st mn w s h hm hw hs hc
    have := GJ_new hV hK h hw hs hc
    exfalso
    omega
  · intro le hd ls st mn w h hB hm
    have e : mn = gN P := by
      refine Decidable.byContradiction fun e => ?_
      have h1 := h.1
      have h2 := (h.2.2.2 mn (by omega) (by omega)).mpr
      have h3 := (hC.2.1.2 mn (by omega) (by omega)).2
      have := (hV.2.2.1 mn (by omega)).2.2.1
      omega
    subst e
    refine K _ _ _ _ h.2.1 (fun x t hx ht => ?_)
    rw [h.2.2.1 x t hx ht, if_pos (hV.2.2.2.1 x t hx ht)]

