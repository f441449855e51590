/-! the class's search: a queue -/
theorem inj_le : ∀ (N n : Nat) (D : Nat → Nat), (∀ q, q < n → D q < N) → (∀ q q', q < q' → q' < n → D q ≠ D q') → n ≤ N := by
  intro N
  induction N with
  | zero =>
    intro n D h1 _
    rcases Nat.eq_zero_or_pos n with e | e
    · omega
    · have := h1 0 e; omega
  | succ N ih =>
    intro n D h1 h2
    by_cases hh : ∃ q, q < n ∧ D q = N
    · obtain ⟨q0, a, b⟩ := hh
      have h3 := ih (n - 1) (fun q => D (if q < q0 then q else q + 1)) (fun q hq => by
        show D _ < N
        by_cases e : q < q0
        · rw [if_pos e]
          have u1 := h1 q (by omega)
          have u2 := h2 q q0 e a
          omega
        · rw [if_neg e]
          have u1 := h1 (q + 1) (by omega)
          have u2 := h2 q0 (q + 1) (by omega) (by omega)
          omega) (fun q q' hq hq' => by
        show D _ ≠ D _
        by_cases e : q < q0
        · rw [if_pos e]
          by_cases e2 : q' < q0
          · rw [if_pos e2]; exact h2 _ _ hq (by omega)
          · rw [if_neg e2]; exact h2 _ _ (by omega) (by omega)
        · rw [if_neg e, if_neg (show ¬ q' < q0 by omega)]
          exact h2 _ _ (by omega) (by omega))
      omega
    · have h3 := ih n D (fun q hq => by
        have u1 := h1 q hq
        have u2 : D q ≠ N := fun e => hh ⟨q, hq, e⟩
        omega) h2
      omega
/-- n rows are known, D lists them in the order in which they were found, F is how far they are -/
def BQ (P : GD) (x k : Nat) (d : Nat → Nat) (F : Nat → Int) (D : Nat → Nat) (n : Nat) : Prop :=
  (∀ q, q < n → D q < gW P x ∧ F (D q) = ((d (D q) : Nat) : Int)) ∧ (∀ v, v < gW P x → F v = -1 ∨ ∃ q, q < n ∧ D q = v) ∧
  (∀ q q', q < q' → q' < n → D q ≠ D q') ∧ (∀ q q', q ≤ q' → q' < n → d (D q) ≤ d (D q')) ∧ 0 < n ∧ D 0 = k
def BD (P : GD) (x : Nat) (F : Nat → Int) (D : Nat → Nat) (i : Nat) : Prop := ∀ q, q < i → ∀ v, v < gW P x → nbR P x (D q) v = true → F v ≠ -1
def BT (d : Nat → Nat) (D : Nat → Nat) (i n : Nat) : Prop := ∀ q, q < n → d (D q) ≤ d (D i) + 1
theorem BQ_le {P : GD} {x k : Nat} {d : Nat → Nat} {F : Nat → Int} {D : Nat → Nat} {n : Nat} (h : BQ P x k d F D n) : n ≤ gW P x := inj_le _ _ D (fun q hq => (h.1 q hq).1) h.2.2.1
theorem BQ_F {P : GD} {x k : Nat} {d : Nat → Nat} {F : Nat → Int} {D : Nat → Nat} {n : Nat} (h : BQ P x k d F D n) {v : Nat} (hv : v < gW P x) (hF : F v ≠ -1) : F v = ((d v : Nat) : Int) := by
  rcases h.2.1 v hv with e | ⟨q, a, b⟩
  · exact absurd e hF
  · rw [← b]; exact (h.1 q a).2
theorem BQ_not {P : GD} {x k : Nat} {d : Nat → Nat} {F : Nat → Int} {D : Nat → Nat} {n i : Nat} (hd : DP P x k d) (h : BQ P x k d F D n) (hB : BD P x F D i) (hi : i < n) : ∀ t v, d v ≤ t → v < gW P x → F v = -1 → d (D i) + 1 ≤ d v := by
  intro t
  induction t with
  | zero =>
    intro v ht hv hF
    have e := hd.2.1 v hv (by omega)
    have e2 := (h.1 0 h.2.2.2.2.1).2
    rw [h.2.2.2.2.2, ← e, hF] at e2
    omega
  | succ t ih =>
    intro v ht hv hF
    rcases Nat.eq_zero_or_pos (d v) with z | z
    · exact ih v (by omega) hv hF
    · obtain ⟨u, hu, hn, he⟩ := hd.2.2.2.1 v hv z
      rcases h.2.1 u hu with e | ⟨q, a, b⟩
      · have := ih u (by omega) hu e; omega
      · rcases Nat.lt_or_ge q i with w | w
        · exact absurd hF (hB q w v hv (by rw [b]; exact hn))
        · have := h.2.2.2.1 i q w a
          rw [b] at this; omega
theorem BQ_all {P : GD} {x k : Nat} {d : Nat → Nat} {F : Nat → Int} {D : Nat → Nat} {n i : Nat} (hd : DP P x k d) (h : BQ P x k d F D n) (hB : BD P x F D i) (hi : n ≤ i) : ∀ t v, d v ≤ t → v < gW P x → F v ≠ -1 := by
  intro t
  induction t with
  | zero =>
    intro v ht hv hF
    have e := hd.2.1 v hv (by omega)
    have e2 := (h.1 0 h.2.2.2.2.1).2
    rw [h.2.2.2.2.2, ← e, hF] at e2
    omega
  | succ t ih =>
    intro v ht hv hF
    rcases Nat.eq_zero_or_pos (d v) with z | z
    · exact ih v (by omega) hv hF
    · obtain ⟨u, hu, hn, he⟩ := hd.2.2.2.1 v hv z
      rcases h.2.1 u hu with e | ⟨q, a, b⟩
      · exact ih u (by omega) hu e
      · exact hB q (by omega) v hv (by rw [b]; exact hn) hF
theorem BQ_app {P : GD} {x k : Nat} {d : Nat → Nat} {F : Nat → Int} {D : Nat → Nat} {n i v : Nat} (hd : DP P x k d) (h : BQ P x k d F D n) (hB : BD P x F D i) (hT : BT d D i n) (hi : i < n) (hv : v < gW P x) (hF : F v = -1) (hn : nbR P x (D i) v = true) : BQ P x k d (u1 F v (((d (D i) : Nat) : Int) + 1)) (uN D n v) (n + 1) ∧ BD P x (u1 F v (((d (D i) : Nat) : Int) + 1)) (uN D n v) i ∧ BT d (uN D n v) i (n + 1) ∧ uN D n v i = D i := by
  have a1 := BQ_not hd h hB hi (d v) v (Nat.le_refl _) hv hF
  have a2 := hd.2.2.1 (D i) v (h.1 i hi).1 hv hn
  have a3 : d v = d (D i) + 1 := by omega
  have ne : ∀ q, q < n → D q ≠ v := fun q hq e => by
    have := (h.1 q hq).2
    rw [e, hF] at this; omega
  have un : ∀ q, q < n → uN D n v q = D q := fun q hq => uN_ne (by omega)
  refine ⟨⟨fun q hq => ?_, fun w hw => ?_, fun q q' hq hq' => ?_, fun q q' hq hq' => ?_, by omega, ?_⟩, fun q hq w hw hh => ?_, fun q hq => ?_, un i hi⟩
  · by_cases e : q = n
    · rw [e, uN_eq, u1_eq]; exact ⟨hv, by omega⟩
    · rw [un q (by omega), u1_ne (ne q (by omega))]; exact h.1 q (by omega)
  · by_cases e : w = v
    · right; exact ⟨n, by omega, by rw [uN_eq, e]⟩
    · rw [u1_ne e]
      rcases h.2.1 w hw with z | ⟨q, a, b⟩
      · exact Or.inl z
      · exact Or.inr ⟨q, by omega, by rw [un q a]; exact b⟩
  · by_cases e : q' = n
    · rw [e, uN_eq, un q (by omega)]; exact ne q (by omega)
    · rw [un q (by omega), un q' (by omega)]; exact h.2.2.1 q q' hq (by omega)
  · by_cases e : q' = n
    · rw [e, uN_eq]
      by_cases e2 : q = n
      · rw [e2, uN_eq]; exact Nat.le_refl _
      · rw [un q (by omega), a3]; exact hT q (by omega)
    · rw [un q (by omega), un q' (by omega)]; exact h.2.2.2.1 q q' hq (by omega)
  · rw [un 0 h.2.2.2.2.1]; exact h.2.2.2.2.2
  · rw [un q (by omega)] at hh
    by_cases e : w = v
    · rw [e, u1_eq]; omega
    · rw [u1_ne e]; exact hB q hq w hw hh
  · rw [un i hi]
    by_cases e : q = n
    · rw [e, uN_eq, a3]; exact Nat.le_refl _
    · rw [un q (by omega)]; exact hT q (by omega)
theorem BQ_0 {P : GD} {x k : Nat} {d : Nat → Nat} {F : Nat → Int} {D : Nat → Nat} (hd : DP P x k d) (hk : k < gW P x) (hF : ∀ v, v < gW P x → F v = -1) : BQ P x k d (u1 F k 0) (uN D 0 k) 1 ∧ BD P x (u1 F k 0) (uN D 0 k) 0 := by
  refine ⟨⟨fun q hq => ?_, fun v hv => ?_, fun q q' _ _ => by omega, fun q q' _ _ => ?_, by omega, uN_eq _ _ _⟩, fun q hq => by omega⟩
  · have e : q = 0 := by omega
    rw [e, uN_eq, u1_eq, hd.1]; exact ⟨hk, rfl⟩
  · by_cases e : v = k
    · right; exact ⟨0, by omega, by rw [uN_eq, e]⟩
    · left; rw [u1_ne e]; exact hF v hv
  · have e : q = q' := by omega
    rw [e]; exact Nat.le_refl _
/-- behind row D i: its moves at the places ahead of p are done -/
def BP (P : GD) (x u : Nat) (F : Nat → Int) (p : Nat) : Prop := ∀ q, q < p → ∀ v, v < gW P x → rowF P (gL P x) x v 0 = mvd P (rowF P (gL P x) x u 0) (gL P x) q → v = u ∨ F v ≠ -1
theorem BP_BD {P : GD} {x k : Nat} {d : Nat → Nat} {F : Nat → Int} {D : Nat → Nat} {n i : Nat} (hV : GV P) (h : BQ P x k d F D n) (hi : i < n) (hB : BD P x F D i) (hP : BP P x (D i) F (gL P x - 1)) : BD P x F D (i + 1) := by
  intro q hq v hv hn
  by_cases e : q = i
  · rw [e] at hn
    obtain ⟨p, hp⟩ := nbR_iff.mp hn
    have h1 := NB_mvd hV hp.1 hp
    have hp1 := hp.1
    rcases hP p (by omega) v hv h1 with z | z
    · rw [z]
      have := (h.1 i hi).2
      rw [this]; omega
    · exact z
  · exact hB q (by omega) v hv hn
theorem BT_next {P : GD} {x k : Nat} {d : Nat → Nat} {F : Nat → Int} {D : Nat → Nat} {n i : Nat} (h : BQ P x k d F D n) (hT : BT d D i n) (hi : i + 1 < n) : BT d D (i + 1) n := by
  intro q hq
  have h1 := h.2.2.2.1 i (i + 1) (by omega) hi
  have h2 := hT q hq
  omega
