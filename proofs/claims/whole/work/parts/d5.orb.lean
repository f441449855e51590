/-! BAD TABLES: more than 60 different matrices are reached -/
def addR (w : Nat) : List Nat → List Nat → List Nat
  | x :: xs, y :: ys => ((x + w * y) % 55441) :: addR w xs ys
  | _, _ => []
def actM (ra : List Nat) : List Nat → List (List Nat) → List (List Nat)
  | w :: ws, r :: rs => addR w r ra :: actM ra ws rs
  | _, _ => []
def actA (W M : List (List Nat)) (a : Nat) : List (List Nat) := actM (M.getD a []) (W.getD a []) M
def eqL : List Nat → List Nat → Bool
  | [], [] => true
  | x :: xs, y :: ys => Nat.beq x y && eqL xs ys
  | _, _ => false
def eqM : List (List Nat) → List (List Nat) → Bool
  | [], [] => true
  | x :: xs, y :: ys => eqL x y && eqM xs ys
  | _, _ => false
theorem eqL_rf : ∀ l, eqL l l = true := by
  intro l
  induction l with
  | nil => rfl
  | cons x l ih => simp [eqL, ih, nbr]
theorem eqM_rf : ∀ l, eqM l l = true := by
  intro l
  induction l with
  | nil => rfl
  | cons x l ih => simp [eqM, ih, eqL_rf]
def memM (M : List (List Nat)) : List (List (List Nat)) → Bool
  | [] => false
  | x :: l => bif eqM x M then true else memM M l
theorem memM_no {M : List (List Nat)} : ∀ l, memM M l = false → ∀ x, x ∈ l → x ≠ M := by
  intro l
  induction l with
  | nil => intro _ x hx; exact absurd hx (by simp)
  | cons y l ih =>
    intro h x hx e
    unfold memM at h
    cases hy : eqM y M with
    | true => rw [hy] at h; exact absurd (show true = false from h) (by decide)
    | false =>
      rw [hy] at h
      rcases List.mem_cons.mp hx with q | q
      · rw [← q, e, eqM_rf] at hy; exact absurd hy (by decide)
      · exact ih h x q e
abbrev LL : Type := List (List (List Nat))
def trA (W M : List (List Nat)) : List Nat → LL → LL → LL × LL
  | [], seen, new => (seen, new)
  | a :: ls, seen, new => bif memM (actA W M a) seen then trA W M ls seen new else trA W M ls (actA W M a :: seen) (actA W M a :: new)
def grw (W : List (List Nat)) (ls : List Nat) : Nat → LL → LL → LL
  | 0, _, seen => seen
  | _ + 1, [], seen => seen
  | n + 1, M :: qs, seen => bif Nat.ble 61 seen.length then seen else grw W ls n ((trA W M ls seen []).2 ++ qs) (trA W M ls seen []).1
def NDp : LL → Prop
  | [] => True
  | x :: l => (∀ y, y ∈ l → y ≠ x) ∧ NDp l
theorem trA_ok {W M : List (List Nat)} {Q : List (List Nat) → Prop} : ∀ (ls : List Nat) (seen new : LL), (∀ a, a ∈ ls → Q (actA W M a)) → (∀ x, x ∈ seen → Q x) → NDp seen → (∀ x, x ∈ new → Q x) → (∀ x, x ∈ (trA W M ls seen new).1 → Q x) ∧ NDp (trA W M ls seen new).1 ∧ (∀ x, x ∈ (trA W M ls seen new).2 → Q x) := by
  intro ls
  induction ls with
  | nil => intro seen new _ h1 h2 h3; exact ⟨h1, h2, h3⟩
  | cons a ls ih =>
    intro seen new h0 h1 h2 h3
    unfold trA
    have ha := h0 a (by simp)
    have h0' : ∀ b, b ∈ ls → Q (actA W M b) := fun b hb => h0 b (by simp [hb])
    cases hm : memM (actA W M a) seen with
    | true => exact ih seen new h0' h1 h2 h3
    | false =>
      refine ih _ _ h0' (fun x hx => ?_) ⟨memM_no seen hm, h2⟩ (fun x hx => ?_)
      · rcases List.mem_cons.mp hx with q | q
        · rw [q]; exact ha
        · exact h1 x q
      · rcases List.mem_cons.mp hx with q | q
        · rw [q]; exact ha
        · exact h3 x q
theorem grw_ok {W : List (List Nat)} {ls : List Nat} {Q : List (List Nat) → Prop} (hQ : ∀ M, Q M → ∀ a, a ∈ ls → Q (actA W M a)) : ∀ (n : Nat) (qs seen : LL), (∀ x, x ∈ qs → Q x) → (∀ x, x ∈ seen → Q x) → NDp seen → (∀ x, x ∈ grw W ls n qs seen → Q x) ∧ NDp (grw W ls n qs seen) := by
  intro n
  induction n with
  | zero => intro qs seen _ h1 h2; exact ⟨h1, h2⟩
  | succ n ih =>
    intro qs seen h0 h1 h2
    cases qs with
    | nil => exact ⟨h1, h2⟩
    | cons M qs =>
      unfold grw
      cases hl : Nat.ble 61 seen.length with
      | true => exact ⟨h1, h2⟩
      | false =>
        obtain ⟨a, b, c⟩ := trA_ok (W := W) (M := M) ls seen [] (hQ M (h0 M (by simp))) h1 h2 (fun x hx => absurd hx (by simp))
        refine ih _ _ (fun x hx => ?_) a b
        rcases List.mem_append.mp hx with q | q
        · exact c x q
        · exact h0 x (by simp [q])
def rmv (a : List (List Nat)) : LL → LL
  | [] => []
  | x :: l => bif eqM x a then rmv a l else x :: rmv a l
theorem eqL_eq : ∀ l m, eqL l m = true → l = m := by
  intro l
  induction l with
  | nil => intro m h; cases m with
    | nil => rfl
    | cons y m => exact absurd h (by simp [eqL])
  | cons x l ih => intro m h; cases m with
    | nil => exact absurd h (by simp [eqL])
    | cons y m =>
      obtain ⟨a, b⟩ := and2 h
      rw [beq_eq a, ih m b]
theorem eqM_eq : ∀ l m, eqM l m = true → l = m := by
  intro l
  induction l with
  | nil => intro m h; cases m with
    | nil => rfl
    | cons y m => exact absurd h (by simp [eqM])
  | cons x l ih => intro m h; cases m with
    | nil => exact absurd h (by simp [eqM])
    | cons y m =>
      obtain ⟨a, b⟩ := and2 h
      rw [eqL_eq _ _ a, ih m b]
theorem rmv_in {a : List (List Nat)} : ∀ l x, x ∈ rmv a l → x ∈ l ∧ x ≠ a := by
  intro l
  induction l with
  | nil => intro x hx; exact absurd hx (by simp [rmv])
  | cons y l ih =>
    intro x hx
    unfold rmv at hx
    cases h : eqM y a with
    | true => rw [h] at hx; exact ⟨by simp [(ih x hx).1], (ih x hx).2⟩
    | false =>
      rw [h] at hx
      rcases List.mem_cons.mp hx with q | q
      · refine ⟨by simp [q], fun e => ?_⟩
        rw [← q, e, eqM_rf] at h; exact absurd h (by decide)
      · exact ⟨by simp [(ih x q).1], (ih x q).2⟩
theorem rmv_nd {a : List (List Nat)} : ∀ l, NDp l → NDp (rmv a l) ∧ l.length ≤ (rmv a l).length + 1 ∧ ((∀ x, x ∈ l → x ≠ a) → l.length = (rmv a l).length) := by
  intro l
  induction l with
  | nil => intro _; exact ⟨trivial, by simp [rmv], fun _ => rfl⟩
  | cons y l ih =>
    intro h
    obtain ⟨i1, i2, i3⟩ := ih h.2
    unfold rmv
    cases he : eqM y a with
    | true =>
      have e := eqM_eq _ _ he
      have i4 := i3 (fun x hx => by rw [← e]; exact h.1 x hx)
      refine ⟨i1, ?_, fun q => absurd e (q y (by simp))⟩
      simp only [List.length_cons, cond_true]
      omega
    | false =>
      refine ⟨⟨fun x hx => h.1 x (rmv_in l x hx).1, i1⟩, ?_, fun q => ?_⟩
      · simp only [List.length_cons, cond_false]; omega
      · have := i3 (fun x hx => q x (by simp [hx]))
        simp only [List.length_cons, cond_false]; omega
theorem pig (f : Nat → List (List Nat)) : ∀ (n : Nat) (l : LL), NDp l → (∀ x, x ∈ l → ∃ k, k < n ∧ f k = x) → l.length ≤ n := by
  intro n
  induction n with
  | zero =>
    intro l _ h
    cases l with
    | nil => exact Nat.le_refl _
    | cons x l => obtain ⟨k, a, _⟩ := h x (by simp); omega
  | succ n ih =>
    intro l h1 h2
    obtain ⟨a, b, _⟩ := rmv_nd (a := f n) l h1
    have := ih (rmv (f n) l) a (fun x hx => by
      obtain ⟨p, q⟩ := rmv_in l x hx
      obtain ⟨k, c, d⟩ := h2 x p
      refine ⟨k, ?_, d⟩
      by_cases e : k = n
      · rw [e] at d; exact absurd d.symm q
      · omega)
    omega
theorem orb_bad {W : List (List Nat)} {ls : List Nat} {M0 : List (List Nat)} {f : Nat → List (List Nat)} {nn : Nat} (h0 : f 0 = M0) (hn : 1 ≤ nn) (hn2 : nn ≤ 60) (hs : ∀ x, x < nn → ∀ a, a ∈ ls → ∃ y, y < nn ∧ f y = actA W (f x) a) (hk : Nat.ble 61 (grw W ls 300 [M0] [M0]).length = true) : False := by
  have hQ : ∀ M, (∃ k, k < nn ∧ f k = M) → ∀ a, a ∈ ls → ∃ k, k < nn ∧ f k = actA W M a := by
    intro M ⟨k, a, b⟩ c hc
    obtain ⟨y, p, q⟩ := hs k a c hc
    exact ⟨y, p, by rw [q, b]⟩
  have h1 : ∀ x, x ∈ [M0] → ∃ k, k < nn ∧ f k = x := fun x hx => ⟨0, hn, h0.trans (List.mem_singleton.mp hx).symm⟩
  obtain ⟨a, b⟩ := grw_ok (Q := fun M => ∃ k, k < nn ∧ f k = M) hQ 300 [M0] [M0] h1 h1 ⟨fun y hy => absurd hy (by simp), trivial⟩
  have := pig f nn _ b a
  have := ble_le hk
  omega
def cb (b : Nat) : Nat := cmN (b - 2)
def W3 (a b c : Nat) : List (List Nat) := [[55439, cb a, cb b], [cb a, 55439, cb c], [cb b, cb c, 55439]]
def W4 (a b c d e f : Nat) : List (List Nat) := [[55439, cb a, cb b, cb d], [cb a, 55439, cb c, cb e], [cb b, cb c, 55439, cb f], [cb d, cb e, cb f, 55439]]
def W5 (a b c d e f g h i j : Nat) : List (List Nat) := [[55439, cb a, cb b, cb d, cb g], [cb a, 55439, cb c, cb e, cb h], [cb b, cb c, 55439, cb f, cb i], [cb d, cb e, cb f, 55439, cb j], [cb g, cb h, cb i, cb j, 55439]]
def I3 : List (List Nat) := [[1, 0, 0], [0, 1, 0], [0, 0, 1]]
def I4 : List (List Nat) := [[1, 0, 0, 0], [0, 1, 0, 0], [0, 0, 1, 0], [0, 0, 0, 1]]
def I5 : List (List Nat) := [[1, 0, 0, 0, 0], [0, 1, 0, 0, 0], [0, 0, 1, 0, 0], [0, 0, 0, 1, 0], [0, 0, 0, 0, 1]]
def ck3 (a b c : Nat) : Bool := Nat.ble 61 (grw (W3 a b c) [0, 1, 2] 300 [I3] [I3]).length
def ck4 (a b c d e f : Nat) : Bool := Nat.ble 61 (grw (W4 a b c d e f) [0, 1, 2, 3] 300 [I4] [I4]).length
def ck5 (a b c d e f g h i j : Nat) : Bool := Nat.ble 61 (grw (W5 a b c d e f g h i j) [0, 1, 2, 3, 4] 300 [I5] [I5]).length
def en (im : Nat → Nat) (x q i : Nat) : Nat := im (25 * x + 5 * q + i)
theorem wth_ne {bo : Nat → Nat} {s q b : Nat} (h : q ≠ s) (hb : bo (5 * s + q) = b) : wth bo s q = cb b := by rw [wth, if_neg h, hb]; rfl
theorem wth_eq {bo : Nat → Nat} {s : Nat} : wth bo s s = 55439 := if_pos rfl

set_option maxHeartbeats 4000000 in
theorem BAD3 {r : Nat} {bo : Nat → Nat} {j0 j1 j2 b01 b02 b12 : Nat} (h0 : j0 < r) (h1 : j1 < r) (h2 : j2 < r) (n01 : j0 ≠ j1) (p01 : bo (5 * j0 + j1) = b01) (q01 : bo (5 * j1 + j0) = b01) (n02 : j0 ≠ j2) (p02 : bo (5 * j0 + j2) = b02) (q02 : bo (5 * j2 + j0) = b02) (n12 : j1 ≠ j2) (p12 : bo (5 * j1 + j2) = b12) (q12 : bo (5 * j2 + j1) = b12) (hk : ck3 b01 b02 b12 = true) : BAD r bo := by
  intro im nn hn hn2 hc
  refine orb_bad (W := W3 b01 b02 b12) (ls := [0, 1, 2]) (M0 := I3) (f := fun x => [[en im x j0 j0, en im x j0 j1, en im x j0 j2], [en im x j1 j0, en im x j1 j1, en im x j1 j2], [en im x j2 j0, en im x j2 j1, en im x j2 j2]]) ?_ hn hn2 ?_ hk
  · have z : ∀ q i, q < r → i < r → en im 0 q i = if q = i then 1 else 0 := fun q i a b => by
      have := hc.1 q i a b
      show im (25 * 0 + 5 * q + i) = _
      rw [show 25 * 0 + 5 * q + i = 5 * q + i by omega]
      exact this
    show [[en im 0 j0 j0, en im 0 j0 j1, en im 0 j0 j2], [en im 0 j1 j0, en im 0 j1 j1, en im 0 j1 j2], [en im 0 j2 j0, en im 0 j2 j1, en im 0 j2 j2]] = I3
    rw [z j0 j0 h0 h0, z j0 j1 h0 h1, z j0 j2 h0 h2, z j1 j0 h1 h0, z j1 j1 h1 h1, z j1 j2 h1 h2, z j2 j0 h2 h0, z j2 j1 h2 h1, z j2 j2 h2 h2]
    simp [I3, n01, Ne.symm n01, n02, Ne.symm n02, n12, Ne.symm n12]
  · intro x hx a ha
    have ha2 : a = 0 ∨ a = 1 ∨ a = 2 := by simpa using ha
    rcases ha2 with rfl | rfl | rfl
    · obtain ⟨y, hy, e⟩ := hc.2.2 x j0 h0 (Or.inl hx)
      refine ⟨y, hy, ?_⟩
      have e2 : ∀ q i, q < r → i < r → en im y q i = (en im x q i + wth bo j0 q * en im x j0 i) % 55441 := fun q i a b => e q i a b
      show [[en im y j0 j0, en im y j0 j1, en im y j0 j2], [en im y j1 j0, en im y j1 j1, en im y j1 j2], [en im y j2 j0, en im y j2 j1, en im y j2 j2]] = actA (W3 b01 b02 b12) ([[en im x j0 j0, en im x j0 j1, en im x j0 j2], [en im x j1 j0, en im x j1 j1, en im x j1 j2], [en im x j2 j0, en im x j2 j1, en im x j2 j2]]) 0
      simp only [actA, W3, List.getD_cons_zero, List.getD_cons_succ, actM, addR]
      rw [e2 j0 j0 h0 h0, e2 j0 j1 h0 h1, e2 j0 j2 h0 h2, e2 j1 j0 h1 h0, e2 j1 j1 h1 h1, e2 j1 j2 h1 h2, e2 j2 j0 h2 h0, e2 j2 j1 h2 h1, e2 j2 j2 h2 h2, wth_eq, (wth_ne (s := j0) (q := j1) (Ne.symm n01) p01), (wth_ne (s := j0) (q := j2) (Ne.symm n02) p02)]
    · obtain ⟨y, hy, e⟩ := hc.2.2 x j1 h1 (Or.inl hx)
      refine ⟨y, hy, ?_⟩
      have e2 : ∀ q i, q < r → i < r → en im y q i = (en im x q i + wth bo j1 q * en im x j1 i) % 55441 := fun q i a b => e q i a b
      show [[en im y j0 j0, en im y j0 j1, en im y j0 j2], [en im y j1 j0, en im y j1 j1, en im y j1 j2], [en im y j2 j0, en im y j2 j1, en im y j2 j2]] = actA (W3 b01 b02 b12) ([[en im x j0 j0, en im x j0 j1, en im x j0 j2], [en im x j1 j0, en im x j1 j1, en im x j1 j2], [en im x j2 j0, en im x j2 j1, en im x j2 j2]]) 1
      simp only [actA, W3, List.getD_cons_zero, List.getD_cons_succ, actM, addR]
      rw [e2 j0 j0 h0 h0, e2 j0 j1 h0 h1, e2 j0 j2 h0 h2, e2 j1 j0 h1 h0, e2 j1 j1 h1 h1, e2 j1 j2 h1 h2, e2 j2 j0 h2 h0, e2 j2 j1 h2 h1, e2 j2 j2 h2 h2, (wth_ne (s := j1) (q := j0) n01 q01), wth_eq, (wth_ne (s := j1) (q := j2) (Ne.symm n12) p12)]
    · obtain ⟨y, hy, e⟩ := hc.2.2 x j2 h2 (Or.inl hx)
      refine ⟨y, hy, ?_⟩
      have e2 : ∀ q i, q < r → i < r → en im y q i = (en im x q i + wth bo j2 q * en im x j2 i) % 55441 := fun q i a b => e q i a b
      show [[en im y j0 j0, en im y j0 j1, en im y j0 j2], [en im y j1 j0, en im y j1 j1, en im y j1 j2], [en im y j2 j0, en im y j2 j1, en im y j2 j2]] = actA (W3 b01 b02 b12) ([[en im x j0 j0, en im x j0 j1, en im x j0 j2], [en im x j1 j0, en im x j1 j1, en im x j1 j2], [en im x j2 j0, en im x j2 j1, en im x j2 j2]]) 2
      simp only [actA, W3, List.getD_cons_zero, List.getD_cons_succ, actM, addR]
      rw [e2 j0 j0 h0 h0, e2 j0 j1 h0 h1, e2 j0 j2 h0 h2, e2 j1 j0 h1 h0, e2 j1 j1 h1 h1, e2 j1 j2 h1 h2, e2 j2 j0 h2 h0, e2 j2 j1 h2 h1, e2 j2 j2 h2 h2, (wth_ne (s := j2) (q := j0) n02 q02), (wth_ne (s := j2) (q := j1) n12 q12), wth_eq]

set_option maxHeartbeats 4000000 in
theorem BAD4 {r : Nat} {bo : Nat → Nat} {j0 j1 j2 j3 b01 b02 b12 b03 b13 b23 : Nat} (h0 : j0 < r) (h1 : j1 < r) (h2 : j2 < r) (h3 : j3 < r) (n01 : j0 ≠ j1) (p01 : bo (5 * j0 + j1) = b01) (q01 : bo (5 * j1 + j0) = b01) (n02 : j0 ≠ j2) (p02 : bo (5 * j0 + j2) = b02) (q02 : bo (5 * j2 + j0) = b02) (n12 : j1 ≠ j2) (p12 : bo (5 * j1 + j2) = b12) (q12 : bo (5 * j2 + j1) = b12) (n03 : j0 ≠ j3) (p03 : bo (5 * j0 + j3) = b03) (q03 : bo (5 * j3 + j0) = b03) (n13 : j1 ≠ j3) (p13 : bo (5 * j1 + j3) = b13) (q13 : bo (5 * j3 + j1) = b13) (n23 : j2 ≠ j3) (p23 : bo (5 * j2 + j3) = b23) (q23 : bo (5 * j3 + j2) = b23) (hk : ck4 b01 b02 b12 b03 b13 b23 = true) : BAD r bo := by
  intro im nn hn hn2 hc
  refine orb_bad (W := W4 b01 b02 b12 b03 b13 b23) (ls := [0, 1, 2, 3]) (M0 := I4) (f := fun x => [[en im x j0 j0, en im x j0 j1, en im x j0 j2, en im x j0 j3], [en im x j1 j0, en im x j1 j1, en im x j1 j2, en im x j1 j3], [en im x j2 j0, en im x j2 j1, en im x j2 j2, en im x j2 j3], [en im x j3 j0, en im x j3 j1, en im x j3 j2, en im x j3 j3]]) ?_ hn hn2 ?_ hk
  · have z : ∀ q i, q < r → i < r → en im 0 q i = if q = i then 1 else 0 := fun q i a b => by
      have := hc.1 q i a b
      show im (25 * 0 + 5 * q + i) = _
      rw [show 25 * 0 + 5 * q + i = 5 * q + i by omega]
      exact this
    show [[en im 0 j0 j0, en im 0 j0 j1, en im 0 j0 j2, en im 0 j0 j3], [en im 0 j1 j0, en im 0 j1 j1, en im 0 j1 j2, en im 0 j1 j3], [en im 0 j2 j0, en im 0 j2 j1, en im 0 j2 j2, en im 0 j2 j3], [en im 0 j3 j0, en im 0 j3 j1, en im 0 j3 j2, en im 0 j3 j3]] = I4
    rw [z j0 j0 h0 h0, z j0 j1 h0 h1, z j0 j2 h0 h2, z j0 j3 h0 h3, z j1 j0 h1 h0, z j1 j1 h1 h1, z j1 j2 h1 h2, z j1 j3 h1 h3, z j2 j0 h2 h0, z j2 j1 h2 h1, z j2 j2 h2 h2, z j2 j3 h2 h3, z j3 j0 h3 h0, z j3 j1 h3 h1, z j3 j2 h3 h2, z j3 j3 h3 h3]
    simp [I4, n01, Ne.symm n01, n02, Ne.symm n02, n12, Ne.symm n12, n03, Ne.symm n03, n13, Ne.symm n13, n23, Ne.symm n23]
  · intro x hx a ha
    have ha2 : a = 0 ∨ a = 1 ∨ a = 2 ∨ a = 3 := by simpa using ha
    rcases ha2 with rfl | rfl | rfl | rfl
    · obtain ⟨y, hy, e⟩ := hc.2.2 x j0 h0 (Or.inl hx)
      refine ⟨y, hy, ?_⟩
      have e2 : ∀ q i, q < r → i < r → en im y q i = (en im x q i + wth bo j0 q * en im x j0 i) % 55441 := fun q i a b => e q i a b
      show [[en im y j0 j0, en im y j0 j1, en im y j0 j2, en im y j0 j3], [en im y j1 j0, en im y j1 j1, en im y j1 j2, en im y j1 j3], [en im y j2 j0, en im y j2 j1, en im y j2 j2, en im y j2 j3], [en im y j3 j0, en im y j3 j1, en im y j3 j2, en im y j3 j3]] = actA (W4 b01 b02 b12 b03 b13 b23) ([[en im x j0 j0, en im x j0 j1, en im x j0 j2, en im x j0 j3], [en im x j1 j0, en im x j1 j1, en im x j1 j2, en im x j1 j3], [en im x j2 j0, en im x j2 j1, en im x j2 j2, en im x j2 j3], [en im x j3 j0, en im x j3 j1, en im x j3 j2, en im x j3 j3]]) 0
      simp only [actA, W4, List.getD_cons_zero, List.getD_cons_succ, actM, addR]
      rw [e2 j0 j0 h0 h0, e2 j0 j1 h0 h1, e2 j0 j2 h0 h2, e2 j0 j3 h0 h3, e2 j1 j0 h1 h0, e2 j1 j1 h1 h1, e2 j1 j2 h1 h2, e2 j1 j3 h1 h3, e2 j2 j0 h2 h0, e2 j2 j1 h2 h1, e2 j2 j2 h2 h2, e2 j2 j3 h2 h3, e2 j3 j0 h3 h0, e2 j3 j1 h3 h1, e2 j3 j2 h3 h2, e2 j3 j3 h3 h3, wth_eq, (wth_ne (s := j0) (q := j1) (Ne.symm n01) p01), (wth_ne (s := j0) (q := j2) (Ne.symm n02) p02), (wth_ne (s := j0) (q := j3) (Ne.symm n03) p03)]
    · obtain ⟨y, hy, e⟩ := hc.2.2 x j1 h1 (Or.inl hx)
      refine ⟨y, hy, ?_⟩
      have e2 : ∀ q i, q < r → i < r → en im y q i = (en im x q i + wth bo j1 q * en im x j1 i) % 55441 := fun q i a b => e q i a b
      show [[en im y j0 j0, en im y j0 j1, en im y j0 j2, en im y j0 j3], [en im y j1 j0, en im y j1 j1, en im y j1 j2, en im y j1 j3], [en im y j2 j0, en im y j2 j1, en im y j2 j2, en im y j2 j3], [en im y j3 j0, en im y j3 j1, en im y j3 j2, en im y j3 j3]] = actA (W4 b01 b02 b12 b03 b13 b23) ([[en im x j0 j0, en im x j0 j1, en im x j0 j2, en im x j0 j3], [en im x j1 j0, en im x j1 j1, en im x j1 j2, en im x j1 j3], [en im x j2 j0, en im x j2 j1, en im x j2 j2, en im x j2 j3], [en im x j3 j0, en im x j3 j1, en im x j3 j2, en im x j3 j3]]) 1
      simp only [actA, W4, List.getD_cons_zero, List.getD_cons_succ, actM, addR]
      rw [e2 j0 j0 h0 h0, e2 j0 j1 h0 h1, e2 j0 j2 h0 h2, e2 j0 j3 h0 h3, e2 j1 j0 h1 h0, e2 j1 j1 h1 h1, e2 j1 j2 h1 h2, e2 j1 j3 h1 h3, e2 j2 j0 h2 h0, e2 j2 j1 h2 h1, e2 j2 j2 h2 h2, e2 j2 j3 h2 h3, e2 j3 j0 h3 h0, e2 j3 j1 h3 h1, e2 j3 j2 h3 h2, e2 j3 j3 h3 h3, (wth_ne (s := j1) (q := j0) n01 q01), wth_eq, (wth_ne (s := j1) (q := j2) (Ne.symm n12) p12), (wth_ne (s := j1) (q := j3) (Ne.symm n13) p13)]
    · obtain ⟨y, hy, e⟩ := hc.2.2 x j2 h2 (Or.inl hx)
      refine ⟨y, hy, ?_⟩
      have e2 : ∀ q i, q < r → i < r → en im y q i = (en im x q i + wth bo j2 q * en im x j2 i) % 55441 := fun q i a b => e q i a b
      show [[en im y j0 j0, en im y j0 j1, en im y j0 j2, en im y j0 j3], [en im y j1 j0, en im y j1 j1, en im y j1 j2, en im y j1 j3], [en im y j2 j0, en im y j2 j1, en im y j2 j2, en im y j2 j3], [en im y j3 j0, en im y j3 j1, en im y j3 j2, en im y j3 j3]] = actA (W4 b01 b02 b12 b03 b13 b23) ([[en im x j0 j0, en im x j0 j1, en im x j0 j2, en im x j0 j3], [en im x j1 j0, en im x j1 j1, en im x j1 j2, en im x j1 j3], [en im x j2 j0, en im x j2 j1, en im x j2 j2, en im x j2 j3], [en im x j3 j0, en im x j3 j1, en im x j3 j2, en im x j3 j3]]) 2
      simp only [actA, W4, List.getD_cons_zero, List.getD_cons_succ, actM, addR]
      rw [e2 j0 j0 h0 h0, e2 j0 j1 h0 h1, e2 j0 j2 h0 h2, e2 j0 j3 h0 h3, e2 j1 j0 h1 h0, e2 j1 j1 h1 h1, e2 j1 j2 h1 h2, e2 j1 j3 h1 h3, e2 j2 j0 h2 h0, e2 j2 j1 h2 h1, e2 j2 j2 h2 h2, e2 j2 j3 h2 h3, e2 j3 j0 h3 h0, e2 j3 j1 h3 h1, e2 j3 j2 h3 h2, e2 j3 j3 h3 h3, (wth_ne (s := j2) (q := j0) n02 q02), (wth_ne (s := j2) (q := j1) n12 q12), wth_eq, (wth_ne (s := j2) (q := j3) (Ne.symm n23) p23)]
    · obtain ⟨y, hy, e⟩ := hc.2.2 x j3 h3 (Or.inl hx)
      refine ⟨y, hy, ?_⟩
      have e2 : ∀ q i, q < r → i < r → en im y q i = (en im x q i + wth bo j3 q * en im x j3 i) % 55441 := fun q i a b => e q i a b
      show [[en im y j0 j0, en im y j0 j1, en im y j0 j2, en im y j0 j3], [en im y j1 j0, en im y j1 j1, en im y j1 j2, en im y j1 j3], [en im y j2 j0, en im y j2 j1, en im y j2 j2, en im y j2 j3], [en im y j3 j0, en im y j3 j1, en im y j3 j2, en im y j3 j3]] = actA (W4 b01 b02 b12 b03 b13 b23) ([[en im x j0 j0, en im x j0 j1, en im x j0 j2, en im x j0 j3], [en im x j1 j0, en im x j1 j1, en im x j1 j2, en im x j1 j3], [en im x j2 j0, en im x j2 j1, en im x j2 j2, en im x j2 j3], [en im x j3 j0, en im x j3 j1, en im x j3 j2, en im x j3 j3]]) 3
      simp only [actA, W4, List.getD_cons_zero, List.getD_cons_succ, actM, addR]
      rw [e2 j0 j0 h0 h0, e2 j0 j1 h0 h1, e2 j0 j2 h0 h2, e2 j0 j3 h0 h3, e2 j1 j0 h1 h0, e2 j1 j1 h1 h1, e2 j1 j2 h1 h2, e2 j1 j3 h1 h3, e2 j2 j0 h2 h0, e2 j2 j1 h2 h1, e2 j2 j2 h2 h2, e2 j2 j3 h2 h3, e2 j3 j0 h3 h0, e2 j3 j1 h3 h1, e2 j3 j2 h3 h2, e2 j3 j3 h3 h3, (wth_ne (s := j3) (q := j0) n03 q03), (wth_ne (s := j3) (q := j1) n13 q13), (wth_ne (s := j3) (q := j2) n23 q23), wth_eq]

set_option maxHeartbeats 4000000 in
theorem BAD5 {r : Nat} {bo : Nat → Nat} {j0 j1 j2 j3 j4 b01 b02 b12 b03 b13 b23 b04 b14 b24 b34 : Nat} (h0 : j0 < r) (h1 : j1 < r) (h2 : j2 < r) (h3 : j3 < r) (h4 : j4 < r) (n01 : j0 ≠ j1) (p01 : bo (5 * j0 + j1) = b01) (q01 : bo (5 * j1 + j0) = b01) (n02 : j0 ≠ j2) (p02 : bo (5 * j0 + j2) = b02) (q02 : bo (5 * j2 + j0) = b02) (n12 : j1 ≠ j2) (p12 : bo (5 * j1 + j2) = b12) (q12 : bo (5 * j2 + j1) = b12) (n03 : j0 ≠ j3) (p03 : bo (5 * j0 + j3) = b03) (q03 : bo (5 * j3 + j0) = b03) (n13 : j1 ≠ j3) (p13 : bo (5 * j1 + j3) = b13) (q13 : bo (5 * j3 + j1) = b13) (n23 : j2 ≠ j3) (p23 : bo (5 * j2 + j3) = b23) (q23 : bo (5 * j3 + j2) = b23) (n04 : j0 ≠ j4) (p04 : bo (5 * j0 + j4) = b04) (q04 : bo (5 * j4 + j0) = b04) (n14 : j1 ≠ j4) (p14 : bo (5 * j1 + j4) = b14) (q14 : bo (5 * j4 + j1) = b14) (n24 : j2 ≠ j4) (p24 : bo (5 * j2 + j4) = b24) (q24 : bo (5 * j4 + j2) = b24) (n34 : j3 ≠ j4) (p34 : bo (5 * j3 + j4) = b34) (q34 : bo (5 * j4 + j3) = b34) (hk : ck5 b01 b02 b12 b03 b13 b23 b04 b14 b24 b34 = true) : BAD r bo := by
  intro im nn hn hn2 hc
  refine orb_bad (W := W5 b01 b02 b12 b03 b13 b23 b04 b14 b24 b34) (ls := [0, 1, 2, 3, 4]) (M0 := I5) (f := fun x => [[en im x j0 j0, en im x j0 j1, en im x j0 j2, en im x j0 j3, en im x j0 j4], [en im x j1 j0, en im x j1 j1, en im x j1 j2, en im x j1 j3, en im x j1 j4], [en im x j2 j0, en im x j2 j1, en im x j2 j2, en im x j2 j3, en im x j2 j4], [en im x j3 j0, en im x j3 j1, en im x j3 j2, en im x j3 j3, en im x j3 j4], [en im x j4 j0, en im x j4 j1, en im x j4 j2, en im x j4 j3, en im x j4 j4]]) ?_ hn hn2 ?_ hk
  · have z : ∀ q i, q < r → i < r → en im 0 q i = if q = i then 1 else 0 := fun q i a b => by
      have := hc.1 q i a b
      show im (25 * 0 + 5 * q + i) = _
      rw [show 25 * 0 + 5 * q + i = 5 * q + i by omega]
      exact this
    show [[en im 0 j0 j0, en im 0 j0 j1, en im 0 j0 j2, en im 0 j0 j3, en im 0 j0 j4], [en im 0 j1 j0, en im 0 j1 j1, en im 0 j1 j2, en im 0 j1 j3, en im 0 j1 j4], [en im 0 j2 j0, en im 0 j2 j1, en im 0 j2 j2, en im 0 j2 j3, en im 0 j2 j4], [en im 0 j3 j0, en im 0 j3 j1, en im 0 j3 j2, en im 0 j3 j3, en im 0 j3 j4], [en im 0 j4 j0, en im 0 j4 j1, en im 0 j4 j2, en im 0 j4 j3, en im 0 j4 j4]] = I5
    rw [z j0 j0 h0 h0, z j0 j1 h0 h1, z j0 j2 h0 h2, z j0 j3 h0 h3, z j0 j4 h0 h4, z j1 j0 h1 h0, z j1 j1 h1 h1, z j1 j2 h1 h2, z j1 j3 h1 h3, z j1 j4 h1 h4, z j2 j0 h2 h0, z j2 j1 h2 h1, z j2 j2 h2 h2, z j2 j3 h2 h3, z j2 j4 h2 h4, z j3 j0 h3 h0, z j3 j1 h3 h1, z j3 j2 h3 h2, z j3 j3 h3 h3, z j3 j4 h3 h4, z j4 j0 h4 h0, z j4 j1 h4 h1, z j4 j2 h4 h2, z j4 j3 h4 h3, z j4 j4 h4 h4]
    simp [I5, n01, Ne.symm n01, n02, Ne.symm n02, n12, Ne.symm n12, n03, Ne.symm n03, n13, Ne.symm n13, n23, Ne.symm n23, n04, Ne.symm n04, n14, Ne.symm n14, n24, Ne.symm n24, n34, Ne.symm n34]
  · intro x hx a ha
    have ha2 : a = 0 ∨ a = 1 ∨ a = 2 ∨ a = 3 ∨ a = 4 := by simpa using ha
    rcases ha2 with rfl | rfl | rfl | rfl | rfl
    · obtain ⟨y, hy, e⟩ := hc.2.2 x j0 h0 (Or.inl hx)
      refine ⟨y, hy, ?_⟩
      have e2 : ∀ q i, q < r → i < r → en im y q i = (en im x q i + wth bo j0 q * en im x j0 i) % 55441 := fun q i a b => e q i a b
      show [[en im y j0 j0, en im y j0 j1, en im y j0 j2, en im y j0 j3, en im y j0 j4], [en im y j1 j0, en im y j1 j1, en im y j1 j2, en im y j1 j3, en im y j1 j4], [en im y j2 j0, en im y j2 j1, en im y j2 j2, en im y j2 j3, en im y j2 j4], [en im y j3 j0, en im y j3 j1, en im y j3 j2, en im y j3 j3, en im y j3 j4], [en im y j4 j0, en im y j4 j1, en im y j4 j2, en im y j4 j3, en im y j4 j4]] = actA (W5 b01 b02 b12 b03 b13 b23 b04 b14 b24 b34) ([[en im x j0 j0, en im x j0 j1, en im x j0 j2, en im x j0 j3, en im x j0 j4], [en im x j1 j0, en im x j1 j1, en im x j1 j2, en im x j1 j3, en im x j1 j4], [en im x j2 j0, en im x j2 j1, en im x j2 j2, en im x j2 j3, en im x j2 j4], [en im x j3 j0, en im x j3 j1, en im x j3 j2, en im x j3 j3, en im x j3 j4], [en im x j4 j0, en im x j4 j1, en im x j4 j2, en im x j4 j3, en im x j4 j4]]) 0
      simp only [actA, W5, List.getD_cons_zero, List.getD_cons_succ, actM, addR]
      rw [e2 j0 j0 h0 h0, e2 j0 j1 h0 h1, e2 j0 j2 h0 h2, e2 j0 j3 h0 h3, e2 j0 j4 h0 h4, e2 j1 j0 h1 h0, e2 j1 j1 h1 h1, e2 j1 j2 h1 h2, e2 j1 j3 h1 h3, e2 j1 j4 h1 h4, e2 j2 j0 h2 h0, e2 j2 j1 h2 h1, e2 j2 j2 h2 h2, e2 j2 j3 h2 h3, e2 j2 j4 h2 h4, e2 j3 j0 h3 h0, e2 j3 j1 h3 h1, e2 j3 j2 h3 h2, e2 j3 j3 h3 h3, e2 j3 j4 h3 h4, e2 j4 j0 h4 h0, e2 j4 j1 h4 h1, e2 j4 j2 h4 h2, e2 j4 j3 h4 h3, e2 j4 j4 h4 h4, wth_eq, (wth_ne (s := j0) (q := j1) (Ne.symm n01) p01), (wth_ne (s := j0) (q := j2) (Ne.symm n02) p02), (wth_ne (s := j0) (q := j3) (Ne.symm n03) p03), (wth_ne (s := j0) (q := j4) (Ne.symm n04) p04)]
    · obtain ⟨y, hy, e⟩ := hc.2.2 x j1 h1 (Or.inl hx)
      refine ⟨y, hy, ?_⟩
      have e2 : ∀ q i, q < r → i < r → en im y q i = (en im x q i + wth bo j1 q * en im x j1 i) % 55441 := fun q i a b => e q i a b
      show [[en im y j0 j0, en im y j0 j1, en im y j0 j2, en im y j0 j3, en im y j0 j4], [en im y j1 j0, en im y j1 j1, en im y j1 j2, en im y j1 j3, en im y j1 j4], [en im y j2 j0, en im y j2 j1, en im y j2 j2, en im y j2 j3, en im y j2 j4], [en im y j3 j0, en im y j3 j1, en im y j3 j2, en im y j3 j3, en im y j3 j4], [en im y j4 j0, en im y j4 j1, en im y j4 j2, en im y j4 j3, en im y j4 j4]] = actA (W5 b01 b02 b12 b03 b13 b23 b04 b14 b24 b34) ([[en im x j0 j0, en im x j0 j1, en im x j0 j2, en im x j0 j3, en im x j0 j4], [en im x j1 j0, en im x j1 j1, en im x j1 j2, en im x j1 j3, en im x j1 j4], [en im x j2 j0, en im x j2 j1, en im x j2 j2, en im x j2 j3, en im x j2 j4], [en im x j3 j0, en im x j3 j1, en im x j3 j2, en im x j3 j3, en im x j3 j4], [en im x j4 j0, en im x j4 j1, en im x j4 j2, en im x j4 j3, en im x j4 j4]]) 1
      simp only [actA, W5, List.getD_cons_zero, List.getD_cons_succ, actM, addR]
      rw [e2 j0 j0 h0 h0, e2 j0 j1 h0 h1, e2 j0 j2 h0 h2, e2 j0 j3 h0 h3, e2 j0 j4 h0 h4, e2 j1 j0 h1 h0, e2 j1 j1 h1 h1, e2 j1 j2 h1 h2, e2 j1 j3 h1 h3, e2 j1 j4 h1 h4, e2 j2 j0 h2 h0, e2 j2 j1 h2 h1, e2 j2 j2 h2 h2, e2 j2 j3 h2 h3, e2 j2 j4 h2 h4, e2 j3 j0 h3 h0, e2 j3 j1 h3 h1, e2 j3 j2 h3 h2, e2 j3 j3 h3 h3, e2 j3 j4 h3 h4, e2 j4 j0 h4 h0, e2 j4 j1 h4 h1, e2 j4 j2 h4 h2, e2 j4 j3 h4 h3, e2 j4 j4 h4 h4, (wth_ne (s := j1) (q := j0) n01 q01), wth_eq, (wth_ne (s := j1) (q := j2) (Ne.symm n12) p12), (wth_ne (s := j1) (q := j3) (Ne.symm n13) p13), (wth_ne (s := j1) (q := j4) (Ne.symm n14) p14)]
    · obtain ⟨y, hy, e⟩ := hc.2.2 x j2 h2 (Or.inl hx)
      refine ⟨y, hy, ?_⟩
      have e2 : ∀ q i, q < r → i < r → en im y q i = (en im x q i + wth bo j2 q * en im x j2 i) % 55441 := fun q i a b => e q i a b
      show [[en im y j0 j0, en im y j0 j1, en im y j0 j2, en im y j0 j3, en im y j0 j4], [en im y j1 j0, en im y j1 j1, en im y j1 j2, en im y j1 j3, en im y j1 j4], [en im y j2 j0, en im y j2 j1, en im y j2 j2, en im y j2 j3, en im y j2 j4], [en im y j3 j0, en im y j3 j1, en im y j3 j2, en im y j3 j3, en im y j3 j4], [en im y j4 j0, en im y j4 j1, en im y j4 j2, en im y j4 j3, en im y j4 j4]] = actA (W5 b01 b02 b12 b03 b13 b23 b04 b14 b24 b34) ([[en im x j0 j0, en im x j0 j1, en im x j0 j2, en im x j0 j3, en im x j0 j4], [en im x j1 j0, en im x j1 j1, en im x j1 j2, en im x j1 j3, en im x j1 j4], [en im x j2 j0, en im x j2 j1, en im x j2 j2, en im x j2 j3, en im x j2 j4], [en im x j3 j0, en im x j3 j1, en im x j3 j2, en im x j3 j3, en im x j3 j4], [en im x j4 j0, en im x j4 j1, en im x j4 j2, en im x j4 j3, en im x j4 j4]]) 2
      simp only [actA, W5, List.getD_cons_zero, List.getD_cons_succ, actM, addR]
      rw [e2 j0 j0 h0 h0, e2 j0 j1 h0 h1, e2 j0 j2 h0 h2, e2 j0 j3 h0 h3, e2 j0 j4 h0 h4, e2 j1 j0 h1 h0, e2 j1 j1 h1 h1, e2 j1 j2 h1 h2, e2 j1 j3 h1 h3, e2 j1 j4 h1 h4, e2 j2 j0 h2 h0, e2 j2 j1 h2 h1, e2 j2 j2 h2 h2, e2 j2 j3 h2 h3, e2 j2 j4 h2 h4, e2 j3 j0 h3 h0, e2 j3 j1 h3 h1, e2 j3 j2 h3 h2, e2 j3 j3 h3 h3, e2 j3 j4 h3 h4, e2 j4 j0 h4 h0, e2 j4 j1 h4 h1, e2 j4 j2 h4 h2, e2 j4 j3 h4 h3, e2 j4 j4 h4 h4, (wth_ne (s := j2) (q := j0) n02 q02), (wth_ne (s := j2) (q := j1) n12 q12), wth_eq, (wth_ne (s := j2) (q := j3) (Ne.symm n23) p23), (wth_ne (s := j2) (q := j4) (Ne.symm n24) p24)]
    · obtain ⟨y, hy, e⟩ := hc.2.2 x j3 h3 (Or.inl hx)
      refine ⟨y, hy, ?_⟩
      have e2 : ∀ q i, q < r → i < r → en im y q i = (en im x q i + wth bo j3 q * en im x j3 i) % 55441 := fun q i a b => e q i a b
      show [[en im y j0 j0, en im y j0 j1, en im y j0 j2, en im y j0 j3, en im y j0 j4], [en im y j1 j0, en im y j1 j1, en im y j1 j2, en im y j1 j3, en im y j1 j4], [en im y j2 j0, en im y j2 j1, en im y j2 j2, en im y j2 j3, en im y j2 j4], [en im y j3 j0, en im y j3 j1, en im y j3 j2, en im y j3 j3, en im y j3 j4], [en im y j4 j0, en im y j4 j1, en im y j4 j2, en im y j4 j3, en im y j4 j4]] = actA (W5 b01 b02 b12 b03 b13 b23 b04 b14 b24 b34) ([[en im x j0 j0, en im x j0 j1, en im x j0 j2, en im x j0 j3, en im x j0 j4], [en im x j1 j0, en im x j1 j1, en im x j1 j2, en im x j1 j3, en im x j1 j4], [en im x j2 j0, en im x j2 j1, en im x j2 j2, en im x j2 j3, en im x j2 j4], [en im x j3 j0, en im x j3 j1, en im x j3 j2, en im x j3 j3, en im x j3 j4], [en im x j4 j0, en im x j4 j1, en im x j4 j2, en im x j4 j3, en im x j4 j4]]) 3
      simp only [actA, W5, List.getD_cons_zero, List.getD_cons_succ, actM, addR]
      rw [e2 j0 j0 h0 h0, e2 j0 j1 h0 h1, e2 j0 j2 h0 h2, e2 j0 j3 h0 h3, e2 j0 j4 h0 h4, e2 j1 j0 h1 h0, e2 j1 j1 h1 h1, e2 j1 j2 h1 h2, e2 j1 j3 h1 h3, e2 j1 j4 h1 h4, e2 j2 j0 h2 h0, e2 j2 j1 h2 h1, e2 j2 j2 h2 h2, e2 j2 j3 h2 h3, e2 j2 j4 h2 h4, e2 j3 j0 h3 h0, e2 j3 j1 h3 h1, e2 j3 j2 h3 h2, e2 j3 j3 h3 h3, e2 j3 j4 h3 h4, e2 j4 j0 h4 h0, e2 j4 j1 h4 h1, e2 j4 j2 h4 h2, e2 j4 j3 h4 h3, e2 j4 j4 h4 h4, (wth_ne (s := j3) (q := j0) n03 q03), (wth_ne (s := j3) (q := j1) n13 q13), (wth_ne (s := j3) (q := j2) n23 q23), wth_eq, (wth_ne (s := j3) (q := j4) (Ne.symm n34) p34)]
    · obtain ⟨y, hy, e⟩ := hc.2.2 x j4 h4 (Or.inl hx)
      refine ⟨y, hy, ?_⟩
      have e2 : ∀ q i, q < r → i < r → en im y q i = (en im x q i + wth bo j4 q * en im x j4 i) % 55441 := fun q i a b => e q i a b
      show [[en im y j0 j0, en im y j0 j1, en im y j0 j2, en im y j0 j3, en im y j0 j4], [en im y j1 j0, en im y j1 j1, en im y j1 j2, en im y j1 j3, en im y j1 j4], [en im y j2 j0, en im y j2 j1, en im y j2 j2, en im y j2 j3, en im y j2 j4], [en im y j3 j0, en im y j3 j1, en im y j3 j2, en im y j3 j3, en im y j3 j4], [en im y j4 j0, en im y j4 j1, en im y j4 j2, en im y j4 j3, en im y j4 j4]] = actA (W5 b01 b02 b12 b03 b13 b23 b04 b14 b24 b34) ([[en im x j0 j0, en im x j0 j1, en im x j0 j2, en im x j0 j3, en im x j0 j4], [en im x j1 j0, en im x j1 j1, en im x j1 j2, en im x j1 j3, en im x j1 j4], [en im x j2 j0, en im x j2 j1, en im x j2 j2, en im x j2 j3, en im x j2 j4], [en im x j3 j0, en im x j3 j1, en im x j3 j2, en im x j3 j3, en im x j3 j4], [en im x j4 j0, en im x j4 j1, en im x j4 j2, en im x j4 j3, en im x j4 j4]]) 4
      simp only [actA, W5, List.getD_cons_zero, List.getD_cons_succ, actM, addR]
      rw [e2 j0 j0 h0 h0, e2 j0 j1 h0 h1, e2 j0 j2 h0 h2, e2 j0 j3 h0 h3, e2 j0 j4 h0 h4, e2 j1 j0 h1 h0, e2 j1 j1 h1 h1, e2 j1 j2 h1 h2, e2 j1 j3 h1 h3, e2 j1 j4 h1 h4, e2 j2 j0 h2 h0, e2 j2 j1 h2 h1, e2 j2 j2 h2 h2, e2 j2 j3 h2 h3, e2 j2 j4 h2 h4, e2 j3 j0 h3 h0, e2 j3 j1 h3 h1, e2 j3 j2 h3 h2, e2 j3 j3 h3 h3, e2 j3 j4 h3 h4, e2 j4 j0 h4 h0, e2 j4 j1 h4 h1, e2 j4 j2 h4 h2, e2 j4 j3 h4 h3, e2 j4 j4 h4 h4, (wth_ne (s := j4) (q := j0) n04 q04), (wth_ne (s := j4) (q := j1) n14 q14), (wth_ne (s := j4) (q := j2) n24 q24), (wth_ne (s := j4) (q := j3) n34 q34), wth_eq]

