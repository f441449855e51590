/-! the rows of an element hang together by moves -/
theorem isM_of {P : GD} {x k l p m : Nat} : ∀ f i, (∀ q, i ≤ q → q < i + f → mvC P x k l p m q = true) → isM P x k l p m f i = true := by
  intro f
  induction f with
  | zero => intro i _; rfl
  | succ f ih =>
    intro i h
    rw [isM, h i (Nat.le_refl _) (by omega), ih (i + 1) (fun q a b => h q (by omega) (by omega))]; rfl
theorem isM_to {P : GD} {x k l p m : Nat} : ∀ f i, isM P x k l p m f i = true → ∀ q, i ≤ q → q < i + f → mvC P x k l p m q = true := by
  intro f
  induction f with
  | zero => intro i _ q a b; omega
  | succ f ih =>
    intro i h q a b
    rw [isM, Bool.and_eq_true] at h
    by_cases e : q = i
    · rw [e]; exact h.1
    · exact ih _ h.2 q (by omega) (by omega)
theorem anM_of {P : GD} {x k l : Nat} : ∀ f p q, p ≤ q → q < p + f → q + mlen P x k q ≤ gL P x → isM P x k l q (mlen P x k q) (gL P x) 0 = true → anM P x k l f p = true := by
  intro f
  induction f with
  | zero => intro p q a b; omega
  | succ f ih =>
    intro p q a b h1 h2
    rw [anM]
    by_cases e : q = p
    · rw [← e, h2, decide_eq_true h1]; rfl
    · rw [ih (p + 1) q (by omega) (by omega) h1 h2, Bool.or_true]
theorem anM_to {P : GD} {x k l : Nat} : ∀ f p, anM P x k l f p = true → ∃ q, p ≤ q ∧ q < p + f ∧ q + mlen P x k q ≤ gL P x ∧ isM P x k l q (mlen P x k q) (gL P x) 0 = true := by
  intro f
  induction f with
  | zero => intro p h; exact absurd h (by simp [anM])
  | succ f ih =>
    intro p h
    rw [anM, Bool.or_eq_true, Bool.and_eq_true, decide_eq_true_eq] at h
    rcases h with h | h
    · exact ⟨p, Nat.le_refl _, by omega, h.1, h.2⟩
    · obtain ⟨q, a, b, c⟩ := ih _ h
      exact ⟨q, by omega, by omega, c⟩
def NB (P : GD) (x k l p : Nat) : Prop := p + 1 < gL P x ∧ p + mlen P x k p ≤ gL P x ∧ ∀ i, i < gL P x → mvC P x k l p (mlen P x k p) i = true
theorem nbR_iff {P : GD} {x k l : Nat} : nbR P x k l = true ↔ ∃ p, NB P x k l p := by
  constructor
  · intro h
    obtain ⟨q, _, b, c, d⟩ := anM_to _ _ h
    exact ⟨q, by omega, c, fun i hi => isM_to _ _ d i (Nat.zero_le _) (by omega)⟩
  · rintro ⟨p, a, b, c⟩
    exact anM_of _ _ p (Nat.zero_le _) (by omega) b (isM_of _ _ (fun q _ h => c q (by omega)))
theorem pre_lt {P : GD} {x : Nat} (hp : preF P x (gR P) = gW P x) {s k : Nat} (hs : s < gR P) (hk : k < gRF P x s) : preF P x s + k < gW P x := by
  have h1 := preF_le (P := P) (x := x) (gR P - (s + 1)) (s + 1)
  rw [show s + 1 + (gR P - (s + 1)) = gR P by omega, hp, preF] at h1
  omega
theorem pre_ex {P : GD} {x : Nat} : ∀ r k, k < preF P x r → ∃ s k', s < r ∧ k' < gRF P x s ∧ k = preF P x s + k' := by
  intro r
  induction r with
  | zero => intro k h; rw [preF] at h; omega
  | succ r ih =>
    intro k h
    rw [preF] at h
    by_cases e : k < preF P x r
    · obtain ⟨s, k', a, b, c⟩ := ih k e
      exact ⟨s, k', by omega, b, c⟩
    · exact ⟨r, k - preF P x r, by omega, by omega, by omega⟩
def PTH (P : GD) (x : Nat) : Nat → Nat → Nat → Prop
  | 0, k, l => k = l
  | n + 1, k, l => ∃ u, u < gW P x ∧ PTH P x n k u ∧ nbR P x u l = true
theorem PTH_tr {P : GD} {x : Nat} {n k u : Nat} (h : PTH P x n k u) : ∀ m l, PTH P x m u l → PTH P x (n + m) k l := by
  intro m
  induction m with
  | zero => intro l h2; rw [← (show u = l from h2)]; exact h
  | succ m ih =>
    intro l h2
    obtain ⟨v, a, b, c⟩ := h2
    exact ⟨v, a, ih v b, c⟩
theorem nb_lift {P : GD} {x s k l : Nat} (hs : s < gR P) (hL : gL P x = gL P (gX P (s + 1) x) + 1) (hk : k < gRF P x s) (hl : l < gRF P x s) (h : nbR P (gX P (s + 1) x) k l = true) : nbR P x (preF P x s + k) (preF P x s + l) = true := by
  rw [nbR_iff] at h ⊢
  obtain ⟨p, a, b, c⟩ := h
  have em : mlen P x (preF P x s + k) (p + 1) = mlen P (gX P (s + 1) x) k p := by rw [mlen, mlen, rl_S hk hs, rl_S hk hs]
  refine ⟨p + 1, by omega, by rw [em]; omega, fun i hi => ?_⟩
  rw [em]
  cases i with
  | zero =>
    simp only [mvC]
    have e : decide (p + 1 ≤ 0 ∧ 0 < p + 1 + mlen P (gX P (s + 1) x) k p) = false := decide_eq_false (by omega)
    rw [e, rl_0 hk hs, rl_0 hl hs]; simp
  | succ i =>
    have := c i (by omega)
    simp only [mvC] at this ⊢
    rw [rl_S hk hs, rl_S hk hs, rl_S hk hs, rl_S hl hs, show i + 1 - (p + 1) = i - p by omega]
    have e : decide (p + 1 ≤ i + 1 ∧ i + 1 < p + 1 + mlen P (gX P (s + 1) x) k p) = decide (p ≤ i ∧ i < p + mlen P (gX P (s + 1) x) k p) := by
      by_cases q : p ≤ i ∧ i < p + mlen P (gX P (s + 1) x) k p
      · rw [decide_eq_true q, decide_eq_true (by omega)]
      · rw [decide_eq_false q, decide_eq_false (by omega)]
    rw [e]; exact this
theorem PTH_lift {P : GD} {x s k : Nat} (hs : s < gR P) (hL : gL P x = gL P (gX P (s + 1) x) + 1) (hp : preF P x (gR P) = gW P x) (hg : gRF P x s = gW P (gX P (s + 1) x)) (hk : k < gRF P x s) : ∀ n l, l < gRF P x s → PTH P (gX P (s + 1) x) n k l → PTH P x n (preF P x s + k) (preF P x s + l) := by
  intro n
  induction n with
  | zero => intro l _ h; rw [show k = l from h]; rfl
  | succ n ih =>
    intro l hl h
    obtain ⟨u, a, b, c⟩ := h
    rw [← hg] at a
    exact ⟨_, pre_lt hp hs a, ih u a b, nb_lift hs hL a hl c⟩
/-- x without the letters s, t, s, .. in front, n of them -/
def aD (P : GD) : Nat → Nat → Nat → Nat → Nat
  | 0, x, _, _ => x
  | n + 1, x, s, t => aD P n (gX P (s + 1) x) t s
def aK (P : GD) : Nat → Nat → Nat → Nat → Bool
  | 0, _, _, _ => true
  | n + 1, x, s, t => (gF P x).testBit s && aK P n (gX P (s + 1) x) t s
/-- the row that begins so, and goes on with row 0 of the rest -/
def aI (P : GD) : Nat → Nat → Nat → Nat → Nat
  | 0, _, _, _ => 0
  | n + 1, x, s, t => preF P x s + aI P n (gX P (s + 1) x) t s
def kBd (P : GD) : Bool := allB (fun x => Nat.ble 1 (gW P x) && allB (fun s => allB (fun t => if Nat.beq s t then true else if (gF P x).testBit s then (if (gF P x).testBit t then Nat.ble 2 (gB P s t) && (aK P (gB P s t) x s t && (aK P (gB P s t) x t s && Nat.beq (aD P (gB P s t) x s t) (aD P (gB P s t) x t s))) else true) else true) (gR P)) (gR P)) (gN P)
def hBd (P : GD) : Prop := ∀ x, x < gN P → 1 ≤ gW P x ∧ ∀ s t, s < gR P → t < gR P → s ≠ t → (gF P x).testBit s = true → (gF P x).testBit t = true → 2 ≤ gB P s t ∧ aK P (gB P s t) x s t = true ∧ aK P (gB P s t) x t s = true ∧ aD P (gB P s t) x s t = aD P (gB P s t) x t s
theorem kBd_ok {P : GD} (h : kBd P = true) : hBd P := by
  intro x hx
  obtain ⟨h1, h2⟩ := and2 (allB_at h x hx)
  refine ⟨ble_le h1, fun s t hs ht hne hs2 ht2 => ?_⟩
  have h3 := allB_at (allB_at h2 s hs) t ht
  have e : ¬ Nat.beq s t = true := fun q => hne (beq_eq q)
  rw [if_neg e, if_pos hs2, if_pos ht2] at h3
  obtain ⟨a, h3⟩ := and2 h3
  obtain ⟨b, h3⟩ := and2 h3
  obtain ⟨c, d⟩ := and2 h3
  exact ⟨ble_le a, b, c, beq_eq d⟩
theorem dn_x {P : GD} (hV : GV P) (hC : GC P) {x s : Nat} (hx : x < gN P) (hs : s < gR P) (hb : (gF P x).testBit s = true) : gX P (s + 1) x < gN P ∧ gL P x = gL P (gX P (s + 1) x) + 1 ∧ gRF P x s = gW P (gX P (s + 1) x) ∧ 0 < x := by
  have h1 := (hC.2.2.2.1 x s hx hs).2
  rw [hb] at h1
  have h2 := of_decide_eq_true h1.symm
  have h3 := hC.2.2.2.2.2 x s hx hs
  refine ⟨hV.2.2.2.2.1 _ _ (hC.1.2 s hs) hx, by omega, by rw [gRF, if_pos hb], ?_⟩
  rcases Nat.eq_zero_or_pos x with e | e
  · rw [e, hC.2.1.1] at h2; omega
  · exact e
theorem aI_ok {P : GD} (hV : GV P) (hC : GC P) (hS : hSp P) (hD : hBd P) : ∀ n x s t, x < gN P → s < gR P → t < gR P → aK P n x s t = true → aI P n x s t < gW P x ∧ n ≤ gL P x ∧ aD P n x s t < gN P ∧ (∀ i, i < n → rlF P i x (aI P n x s t) = if i % 2 = 0 then s else t) ∧ ∀ i, rlF P (n + i) x (aI P n x s t) = rlF P i (aD P n x s t) 0 := by
  intro n
  induction n with
  | zero => intro x s t hx _ _ _; exact ⟨(hD x hx).1, Nat.zero_le _, hx, fun i h => by omega, fun i => by rw [Nat.zero_add]; rfl⟩
  | succ n ih =>
    intro x s t hx hs ht h
    obtain ⟨h1, h2⟩ := and2 h
    obtain ⟨d1, d2, d3, d4⟩ := dn_x hV hC hx hs h1
    obtain ⟨a, b, c, d, e⟩ := ih _ t s d1 ht hs h2
    rw [← d3] at a
    refine ⟨pre_lt (hS.2 x d4 hx).2 hs a, by omega, c, fun i hi => ?_, fun i => ?_⟩
    · cases i with
      | zero => rw [aI, rl_0 a hs, if_pos (by decide)]
      | succ i =>
        rw [aI, rl_S a hs, d i (by omega)]
        by_cases q : i % 2 = 0
        · rw [if_pos q, if_neg (by omega)]
        · rw [if_neg q, if_pos (by omega)]
    · rw [aI, show n + 1 + i = n + i + 1 by omega, rl_S a hs, e i]; rfl
theorem aI_nb {P : GD} (hV : GV P) (hC : GC P) (hS : hSp P) (hD : hBd P) {x s t : Nat} (hx : x < gN P) (hs : s < gR P) (ht : t < gR P) (hne : s ≠ t) (h1 : (gF P x).testBit s = true) (h2 : (gF P x).testBit t = true) : nbR P x (aI P (gB P s t) x s t) (aI P (gB P s t) x t s) = true := by
  obtain ⟨b0, b1, b2, b3⟩ := (hD x hx).2 s t hs ht hne h1 h2
  obtain ⟨a1, a2, a3, a4, a5⟩ := aI_ok hV hC hS hD _ x s t hx hs ht b1
  obtain ⟨c1, c2, c3, c4, c5⟩ := aI_ok hV hC hS hD _ x t s hx ht hs b2
  rw [nbR_iff]
  have r0 := a4 0 (by omega)
  have r1 := a4 1 (by omega)
  rw [if_pos (by decide)] at r0
  rw [if_neg (by decide)] at r1
  have em : mlen P x (aI P (gB P s t) x s t) 0 = gB P s t := by rw [mlen, Nat.zero_add, r0, r1, gBd, if_neg hne]
  refine ⟨0, by omega, by rw [em]; omega, fun i hi => ?_⟩
  rw [em]
  simp only [mvC, Nat.zero_add, r0, r1, Nat.sub_zero]
  by_cases q : i < gB P s t
  · have e : decide (0 ≤ i ∧ i < gB P s t) = true := decide_eq_true ⟨Nat.zero_le _, q⟩
    rw [e, a4 i q, c4 i q]; simp
  · have e : decide (0 ≤ i ∧ i < gB P s t) = false := decide_eq_false (by omega)
    have e1 := a5 (i - gB P s t)
    have e2 := c5 (i - gB P s t)
    rw [show gB P s t + (i - gB P s t) = i by omega] at e1 e2
    rw [e, e1, e2, b3]; simp
theorem conR {P : GD} (hV : GV P) (hC : GC P) (hS : hSp P) (hD : hBd P) : ∀ L x, gL P x ≤ L → x < gN P → ∀ k l, k < gW P x → l < gW P x → ∃ n, n + 1 < 2 ^ (L + 1) ∧ PTH P x n k l := by
  intro L
  induction L with
  | zero =>
    intro x hL hx k l hk hl
    have e : x = 0 := by
      rcases Nat.eq_zero_or_pos x with e | e
      · exact e
      · have := (hC.2.1.2 x e hx).1; omega
    rw [e, hS.1] at hk hl
    exact ⟨0, by decide, show k = l by omega⟩
  | succ L ih =>
    intro x hL hx k l hk hl
    have hp2 : 2 ^ (L + 1 + 1) = 2 * 2 ^ (L + 1) := by rw [Nat.pow_succ, Nat.mul_comm]
    rcases Nat.eq_zero_or_pos x with e | e
    · rw [e, hS.1] at hk hl
      have : 0 < 2 ^ (L + 1) := Nat.pos_of_ne_zero (by simp)
      exact ⟨0, by omega, show k = l by omega⟩
    · have hp := (hS.2 x e hx).2
      rw [← hp] at hk hl
      obtain ⟨s, k', hs, hk', rfl⟩ := pre_ex _ _ hk
      obtain ⟨t, l', ht, hl', rfl⟩ := pre_ex _ _ hl
      have bs : (gF P x).testBit s = true := by
        by_cases q : (gF P x).testBit s = true
        · exact q
        · rw [gRF, if_neg q] at hk'; omega
      have bt : (gF P x).testBit t = true := by
        by_cases q : (gF P x).testBit t = true
        · exact q
        · rw [gRF, if_neg q] at hl'; omega
      obtain ⟨s1, s2, s3, _⟩ := dn_x hV hC hx hs bs
      obtain ⟨t1, t2, t3, _⟩ := dn_x hV hC hx ht bt
      by_cases hne : s = t
      · subst hne
        obtain ⟨n, hn, hh⟩ := ih _ (by omega) s1 k' l' (by omega) (by omega)
        exact ⟨n, by omega, PTH_lift hs s2 hp s3 hk' n l' hl' hh⟩
      · obtain ⟨b0, b1, b2, b3⟩ := (hD x hx).2 s t hs ht hne bs bt
        have nb := aI_nb hV hC hS hD hx hs ht hne bs bt
        obtain ⟨m, hm⟩ : ∃ m, gB P s t = m + 1 := ⟨gB P s t - 1, by omega⟩
        rw [hm] at b1 b2 nb
        have q1 := (aI_ok hV hC hS hD m _ t s s1 ht hs (and2 b1).2).1
        have q2 := (aI_ok hV hC hS hD m _ s t t1 hs ht (and2 b2).2).1
        rw [aI, aI] at nb
        obtain ⟨n1, hn1, p1⟩ := ih _ (by omega) s1 k' _ (by omega) q1
        obtain ⟨n2, hn2, p2⟩ := ih _ (by omega) t1 _ l' q2 (by omega)
        rw [← s3] at q1
        rw [← t3] at q2
        have w1 := PTH_lift hs s2 hp s3 hk' n1 _ q1 p1
        have w2 := PTH_lift ht t2 hp t3 q2 n2 _ hl' p2
        exact ⟨n1 + 1 + n2, by omega, PTH_tr (n := n1 + 1) ⟨_, pre_lt hp hs q1, w1, nb⟩ n2 _ w2⟩
theorem hMv_of {P : GD} (hV : GV P) (hC : GC P) (hS : hSp P) (hD : hBd P) : hMv P := by
  intro x k hx hk
  have h13 := (hV.2.2.1 x hx).1
  have hc := fun l hl => conR hV hC hS hD 13 x h13 hx k l hk hl
  have hex : ∀ v, ∃ n, v < gW P x → (PTH P x n k v ∧ n < 100000 ∧ ∀ n2, PTH P x n2 k v → n ≤ n2) := by
    intro v
    by_cases hv : v < gW P x
    · obtain ⟨n, hn, hh⟩ := hc v hv
      have : ∀ n, PTH P x n k v → ∃ n0, n0 ≤ n ∧ PTH P x n0 k v ∧ ∀ n2, PTH P x n2 k v → n0 ≤ n2 := by
        intro n
        induction n using Nat.strongRecOn with
        | ind n ihn =>
          intro h
          by_cases q : ∃ n2, n2 < n ∧ PTH P x n2 k v
          · obtain ⟨n2, h2, h3⟩ := q
            obtain ⟨n0, a, b, c⟩ := ihn n2 h2 h3
            exact ⟨n0, by omega, b, c⟩
          · exact ⟨n, Nat.le_refl _, h, fun n2 h2 => by
              rcases Nat.lt_or_ge n2 n with z | z
              · exact absurd ⟨n2, z, h2⟩ q
              · exact z⟩
      obtain ⟨n0, a, b, c⟩ := this n hh
      have : 2 ^ (13 + 1) = 16384 := by decide
      exact ⟨n0, fun _ => ⟨b, by omega, c⟩⟩
    · exact ⟨0, fun h => absurd h hv⟩
  obtain ⟨d, hd⟩ : ∃ d : Nat → Nat, ∀ v, v < gW P x → (PTH P x (d v) k v ∧ d v < 100000 ∧ ∀ n2, PTH P x n2 k v → d v ≤ n2) := ⟨fun v => Classical.choose (hex v), fun v => Classical.choose_spec (hex v)⟩
  refine ⟨d, ?_⟩
  refine ⟨?_, fun v hv h0 => ?_, fun u v hu hv hn => ?_, fun v hv h0 => ?_, fun v hv => (hd v hv).2.1⟩
  · have := (hd k hk).2.2 0 (show k = k from rfl); omega
  · have := (hd v hv).1
    rw [h0] at this
    exact (show k = v from this).symm
  · exact (hd v hv).2.2 (d u + 1) ⟨u, hu, (hd u hu).1, hn⟩
  · obtain ⟨n, hn⟩ : ∃ n, d v = n + 1 := ⟨d v - 1, by omega⟩
    have h1 := (hd v hv).1
    rw [hn] at h1
    obtain ⟨u, a, b, c⟩ := h1
    have h2 := (hd u a).2.2 n b
    have h3 := (hd v hv).2.2 (d u + 1) ⟨u, a, (hd u a).1, c⟩
    exact ⟨u, a, c, by omega⟩
