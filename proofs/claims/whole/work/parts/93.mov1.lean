/-! moves: when one row is a move away from another, and how far they are -/
def mvC (P : GD) (x k l p m i : Nat) : Bool :=
  let a := rlF P p x k
  let b := rlF P (p + 1) x k
  let inn := decide (p ≤ i ∧ i < p + m)
  decide (rlF P i x k = if inn then (if (i - p) % 2 = 0 then a else b) else rlF P i x k) && decide (rlF P i x l = if inn then (if (i - p) % 2 = 0 then b else a) else rlF P i x k)
def isM (P : GD) (x k l p m : Nat) : Nat → Nat → Bool
  | 0, _ => true
  | f + 1, i => mvC P x k l p m i && isM P x k l p m f (i + 1)
def mlen (P : GD) (x k p : Nat) : Nat := gBd P (rlF P p x k) (rlF P (p + 1) x k)
def anM (P : GD) (x k l : Nat) : Nat → Nat → Bool
  | 0, _ => false
  | f + 1, p => (decide (p + mlen P x k p ≤ gL P x) && isM P x k l p (mlen P x k p) (gL P x) 0) || anM P x k l f (p + 1)
def nbR (P : GD) (x k l : Nat) : Bool := anM P x k l (gL P x - 1) 0
def DP (P : GD) (x k : Nat) (d : Nat → Nat) : Prop :=
  d k = 0 ∧ (∀ v, v < gW P x → d v = 0 → v = k) ∧ (∀ u v, u < gW P x → v < gW P x → nbR P x u v = true → d v ≤ d u + 1) ∧ (∀ v, v < gW P x → 0 < d v → ∃ u, u < gW P x ∧ nbR P x u v = true ∧ d u + 1 = d v) ∧ ∀ v, v < gW P x → d v < 100000
def hMv (P : GD) : Prop := ∀ x k, x < gN P → k < gW P x → ∃ d, DP P x k d
noncomputable def dMv (P : GD) (x k : Nat) : Nat → Nat := Classical.epsilon (DP P x k)
theorem dMv_ok {P : GD} (h : hMv P) {x k : Nat} (hx : x < gN P) (hk : k < gW P x) : DP P x k (dMv P x k) := Classical.epsilon_spec (h x k hx hk)
noncomputable def q_moves (P : GD) (x k l : Int) : Int := if (0 ≤ x ∧ x < (gN P : Int)) ∧ (0 ≤ k ∧ k < (gW P x.toNat : Int)) ∧ 0 ≤ l ∧ l < (gW P x.toNat : Int) then ((dMv P x.toNat k.toNat l.toNat : Nat) : Int) else -2
/-- the reference, before step t, and in it -/
def MSt (P : GD) (x : Nat) (d : Nat → Nat) (t : Nat) (f : Nat → Nat) : Prop := ∀ v, v < gW P x → (d v ≤ t → f v = d v) ∧ (t < d v → f v = 1000000)
def MVt (P : GD) (x : Nat) (d : Nat → Nat) (t i j : Nat) (f : Nat → Nat) : Prop := ∀ v, v < gW P x →
  (d v ≤ t → f v = d v) ∧ (t + 1 < d v → f v = 1000000) ∧
  (d v = t + 1 → (f v = t + 1 ∨ f v = 1000000) ∧ (∀ u, u < gW P x → nbR P x u v = true → d u = t → (u < i ∨ (u = i ∧ v < j)) → f v = t + 1))
section MVs
variable {P : GD} {x k : Nat} {d : Nat → Nat}
theorem MSt_MV {t : Nat} {f : Nat → Nat} (h : MSt P x d t f) : MVt P x d t 0 0 f := fun v hv =>
  ⟨(h v hv).1, fun q => (h v hv).2 (by omega), fun q => ⟨Or.inr ((h v hv).2 (by omega)), fun u _ _ _ hh => by omega⟩⟩
theorem MV_MSt (hd : DP P x k d) {t : Nat} {f : Nat → Nat} (h : MVt P x d t (gW P x) 0 f) : MSt P x d (t + 1) f := by
  intro v hv
  obtain ⟨a, b, c⟩ := h v hv
  refine ⟨fun q => ?_, fun q => b (by omega)⟩
  rcases Nat.lt_or_ge (d v) (t + 1) with e | e
  · exact a (by omega)
  · have e2 : d v = t + 1 := by omega
    obtain ⟨u, hu, h1, h2⟩ := hd.2.2.2.1 v hv (by omega)
    rw [(c e2).2 u hu h1 (by omega) (Or.inl hu), e2]
theorem MV_at (hd : DP P x k d) {t i j : Nat} {f : Nat → Nat} (h : MVt P x d t i j f) {v : Nat} (hv : v < gW P x) (ht : t < 100000) : f v ≤ 1000000 ∧ (f v = t → d v = t) ∧ (f v ≠ t → d v ≠ t) := by
  obtain ⟨a, b, c⟩ := h v hv
  have := hd.2.2.2.2 v hv
  rcases Nat.lt_trichotomy (d v) (t + 1) with q | q | q
  · rw [a (by omega)]; exact ⟨by omega, fun h => h, fun h => h⟩
  · rcases (c q).1 with e | e
    · rw [e]; exact ⟨by omega, fun h => by omega, fun h => by omega⟩
    · rw [e]; exact ⟨by omega, fun h => by omega, fun h => by omega⟩
  · rw [b q]; exact ⟨by omega, fun h => by omega, fun h => by omega⟩
theorem MV_set (hd : DP P x k d) {t i j : Nat} {f : Nat → Nat} (h : MVt P x d t i j f) (hi : i < gW P x) (hj : j < gW P x) (ht : t < 100000) (hf : f i = t) (hn : f j = 1000000) (hb : nbR P x i j = true) : MVt P x d t i (j + 1) (uN f j (t + 1)) := by
  have di := (MV_at hd h hi ht).2.1 hf
  have dj := hd.2.2.1 i j hi hj hb
  have dj2 : d j = t + 1 := by
    obtain ⟨a, b, c⟩ := h j hj
    rcases Nat.lt_or_ge t (d j) with q | q
    · omega
    · rw [a q] at hn; have := hd.2.2.2.2 j hj; omega
  intro v hv
  obtain ⟨a, b, c⟩ := h v hv
  by_cases e : v = j
  · subst e
    rw [uN_eq]
    exact ⟨fun q => by omega, fun q => by omega, fun q => ⟨Or.inl rfl, fun _ _ _ _ _ => rfl⟩⟩
  · rw [uN_ne e]
    exact ⟨a, b, fun q => ⟨(c q).1, fun u hu h1 h2 h3 => (c q).2 u hu h1 h2 (by omega)⟩⟩
theorem MV_pass (hd : DP P x k d) {t i j : Nat} {f : Nat → Nat} (h : MVt P x d t i j f) (hj : j < gW P x) (hn : f j ≠ 1000000 ∨ nbR P x i j = false) : MVt P x d t i (j + 1) f := by
  intro v hv
  obtain ⟨a, b, c⟩ := h v hv
  refine ⟨a, b, fun q => ⟨(c q).1, fun u hu h1 h2 h3 => ?_⟩⟩
  by_cases e : u = i ∧ v = j
  · rcases hn with hn | hn
    · rw [← e.2] at hn
      rcases (c q).1 with z | z
      · exact z
      · exact absurd z hn
    · rw [e.1, e.2, hn] at h1; exact absurd h1 (by decide)
  · exact (c q).2 u hu h1 h2 (by omega)
theorem MV_row {t i j : Nat} {f : Nat → Nat} (hd : DP P x k d) (h : MVt P x d t i j f) (hi : i < gW P x) (ht : t < 100000) (hq : gW P x ≤ j ∨ f i ≠ t) : MVt P x d t (i + 1) 0 f := by
  intro v hv
  obtain ⟨a, b, c⟩ := h v hv
  refine ⟨a, b, fun q => ⟨(c q).1, fun u hu h1 h2 h3 => ?_⟩⟩
  by_cases e : u = i
  · rcases hq with hq | hq
    · exact (c q).2 u hu h1 h2 (Or.inr ⟨e, by omega⟩)
    · have := (MV_at hd h hi ht).2.2 hq
      rw [e] at h2; exact absurd h2 this
  · exact (c q).2 u hu h1 h2 (by omega)
end MVs
