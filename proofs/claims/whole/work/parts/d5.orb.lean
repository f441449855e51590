/-! BAD TABLES: more than 60 different matrices are reached; a matrix is one number -/
def mmN (c : Nat) : List Nat → Bool
  | [] => false
  | x :: l => bif Nat.beq x c then true else mmN c l
theorem mmN_no {c : Nat} : ∀ l : List Nat, mmN c l = false → ∀ x, x ∈ l → x ≠ c := by
  intro l
  induction l with
  | nil => intro _ x hx; exact absurd hx (by simp)
  | cons y l ih =>
    intro h x hx e
    unfold mmN at h
    cases hy : Nat.beq y c with
    | true => rw [hy] at h; exact absurd (show true = false from h) (by decide)
    | false =>
      rw [hy] at h
      rcases List.mem_cons.mp hx with q | q
      · rw [← q, e, nbr] at hy; exact absurd hy (by decide)
      · exact ih h x q e
def trN (Am : Nat → Nat) (K : List Nat → List Nat → Nat → Bool) : List Nat → List Nat → List Nat → Nat → Bool
  | [], seen, qs, n => K seen qs n
  | a :: ls, seen, qs, n => frc (Am a) (fun c => bif mmN c seen then trN Am K ls seen qs n else frc (n + 1) (fun n2 => trN Am K ls (c :: seen) (c :: qs) n2))
def grN (A : Nat → Nat → Nat) (ls : List Nat) : Nat → List Nat → List Nat → Nat → Bool
  | 0, _, _, _ => false
  | _ + 1, [], _, _ => false
  | t + 1, m :: qs, seen, n => trN (A m) (fun seen2 qs2 n2 => bif Nat.ble 61 n2 then true else grN A ls t qs2 seen2 n2) ls seen qs n
def NDp : List Nat → Prop
  | [] => True
  | x :: l => (∀ y, y ∈ l → y ≠ x) ∧ NDp l
def IVt (Q : Nat → Prop) (seen qs : List Nat) (n : Nat) : Prop := (∀ x, x ∈ seen → Q x) ∧ NDp seen ∧ (∀ x, x ∈ qs → Q x) ∧ seen.length = n
theorem trN_ok {Am : Nat → Nat} {K : List Nat → List Nat → Nat → Bool} {Q : Nat → Prop} {R : Prop} (hK : ∀ seen qs n, IVt Q seen qs n → K seen qs n = true → R) : ∀ (ls seen qs : List Nat) (n : Nat), (∀ a, a ∈ ls → Q (Am a)) → IVt Q seen qs n → trN Am K ls seen qs n = true → R := by
  intro ls
  induction ls with
  | nil => intro seen qs n _ h; exact hK seen qs n h
  | cons a ls ih =>
    intro seen qs n h0 h ht
    rw [trN, frc_eq, frc_eq] at ht
    have ha := h0 a (by simp)
    have h0' : ∀ b, b ∈ ls → Q (Am b) := fun b hb => h0 b (by simp [hb])
    cases hm : mmN (Am a) seen with
    | true => rw [hm] at ht; exact ih _ _ _ h0' h ht
    | false =>
      rw [hm] at ht
      refine ih (Am a :: seen) (Am a :: qs) (n + 1) h0' ⟨fun x hx => ?_, ⟨mmN_no seen hm, h.2.1⟩, fun x hx => ?_, by simp [h.2.2.2]⟩ ht
      · rcases List.mem_cons.mp hx with q | q
        · rw [q]; exact ha
        · exact h.1 x q
      · rcases List.mem_cons.mp hx with q | q
        · rw [q]; exact ha
        · exact h.2.2.1 x q
theorem grN_ok {A : Nat → Nat → Nat} {ls : List Nat} {Q : Nat → Prop} (hQ : ∀ m, Q m → ∀ a, a ∈ ls → Q (A m a)) : ∀ (t : Nat) (qs seen : List Nat) (n : Nat), IVt Q seen qs n → grN A ls t qs seen n = true → ∃ l : List Nat, (∀ x, x ∈ l → Q x) ∧ NDp l ∧ 61 ≤ l.length := by
  intro t
  induction t with
  | zero => intro qs seen n _ h; exact absurd h (by simp [grN])
  | succ t ih =>
    intro qs seen n h ht
    cases qs with
    | nil => exact absurd ht (by simp [grN])
    | cons m qs =>
      rw [grN] at ht
      refine trN_ok (Q := Q) ?_ ls seen qs n (hQ m (h.2.2.1 m (by simp))) ⟨h.1, h.2.1, fun x hx => h.2.2.1 x (by simp [hx]), h.2.2.2⟩ ht
      intro seen2 qs2 n2 h2 hk
      cases hb : Nat.ble 61 n2 with
      | true => exact ⟨seen2, h2.1, h2.2.1, by rw [h2.2.2.2]; exact ble_le hb⟩
      | false => rw [hb] at hk; exact ih qs2 seen2 n2 h2 hk
def rmv (a : Nat) : List Nat → List Nat
  | [] => []
  | x :: l => bif Nat.beq x a then rmv a l else x :: rmv a l
theorem rmv_in {a : Nat} : ∀ (l : List Nat) (x : Nat), x ∈ rmv a l → x ∈ l ∧ x ≠ a := by
  intro l
  induction l with
  | nil => intro x hx; exact absurd hx (by simp [rmv])
  | cons y l ih =>
    intro x hx
    unfold rmv at hx
    cases h : Nat.beq y a with
    | true => rw [h] at hx; exact ⟨by simp [(ih x hx).1], (ih x hx).2⟩
    | false =>
      rw [h] at hx
      rcases List.mem_cons.mp hx with q | q
      · refine ⟨by simp [q], fun e => ?_⟩
        rw [← q, e, nbr] at h; exact absurd h (by decide)
      · exact ⟨by simp [(ih x q).1], (ih x q).2⟩
theorem rmv_nd {a : Nat} : ∀ l : List Nat, NDp l → NDp (rmv a l) ∧ l.length ≤ (rmv a l).length + 1 ∧ ((∀ x, x ∈ l → x ≠ a) → l.length = (rmv a l).length) := by
  intro l
  induction l with
  | nil => intro _; exact ⟨trivial, by simp [rmv], fun _ => rfl⟩
  | cons y l ih =>
    intro h
    obtain ⟨i1, i2, i3⟩ := ih h.2
    unfold rmv
    cases he : Nat.beq y a with
    | true =>
      have e := beq_eq he
      have i4 := i3 (fun x hx => by rw [← e]; exact h.1 x hx)
      refine ⟨i1, ?_, fun q => absurd e (q y (by simp))⟩
      simp only [List.length_cons, cond_true]
      omega
    | false =>
      refine ⟨⟨fun x hx => h.1 x (rmv_in l x hx).1, i1⟩, ?_, fun q => ?_⟩
      · simp only [List.length_cons, cond_false]; omega
      · have := i3 (fun x hx => q x (by simp [hx]))
        simp only [List.length_cons, cond_false]; omega
theorem pig (f : Nat → Nat) : ∀ (n : Nat) (l : List Nat), NDp l → (∀ x, x ∈ l → ∃ k, k < n ∧ f k = x) → l.length ≤ n := by
  intro n
  induction n with
  | zero =>
    intro l _ h
    cases l with
    | nil => exact Nat.le_refl _
    | cons x l => obtain ⟨k, a, _⟩ := h x (by simp); omega
  | succ n ih =>
    intro l h1 h2
    obtain ⟨a, b, _⟩ := rmv_nd (a := f n) l h1
    have := ih (rmv (f n) l) a (fun x hx => by
      obtain ⟨p, q⟩ := rmv_in l x hx
      obtain ⟨k, c, d⟩ := h2 x p
      refine ⟨k, ?_, d⟩
      by_cases e : k = n
      · rw [e] at d; exact absurd d.symm q
      · omega)
    omega
theorem orb_bad {A : Nat → Nat → Nat} {ls : List Nat} {m0 : Nat} {f : Nat → Nat} {nn : Nat} (h0 : f 0 = m0) (hn : 1 ≤ nn) (hn2 : nn ≤ 60) (hs : ∀ x, x < nn → ∀ a, a ∈ ls → ∃ y, y < nn ∧ f y = A (f x) a) (hk : grN A ls 300 [m0] [m0] 1 = true) : False := by
  have hQ : ∀ m, (∃ k, k < nn ∧ f k = m) → ∀ a, a ∈ ls → ∃ k, k < nn ∧ f k = A m a := by
    intro m ⟨k, a, b⟩ c hc
    obtain ⟨y, p, q⟩ := hs k a c hc
    exact ⟨y, p, by rw [q, b]⟩
  have h1 : ∀ x, x ∈ [m0] → ∃ k, k < nn ∧ f k = x := fun x hx => ⟨0, hn, h0.trans (List.mem_singleton.mp hx).symm⟩
  obtain ⟨l, a, b, d⟩ := grN_ok (Q := fun m => ∃ k, k < nn ∧ f k = m) hQ 300 [m0] [m0] 1 ⟨h1, ⟨fun y hy => absurd hy (by simp), trivial⟩, h1, rfl⟩ hk
  have := pig f nn _ b a
  omega
def cdL : List Nat → Nat
  | [] => 0
  | x :: l => x + 65536 * cdL l
def dgt (m j : Nat) : Nat := m / 65536 ^ j % 65536
theorem dgt_cd : ∀ (l : List Nat) (j : Nat), (∀ x, x ∈ l → x < 65536) → dgt (cdL l) j = l.getD j 0 := by
  intro l
  induction l with
  | nil => intro j _; simp [dgt, cdL]
  | cons x l ih =>
    intro j h
    have hx := h x (by simp)
    cases j with
    | zero => simp only [dgt, cdL, Nat.pow_zero, Nat.div_one, List.getD_cons_zero]; omega
    | succ j =>
      have := ih j (fun y hy => h y (by simp [hy]))
      simp only [dgt, cdL, List.getD_cons_succ] at this ⊢
      rw [← this, Nat.pow_succ, Nat.mul_comm (65536 ^ j) 65536, ← Nat.div_div_eq_div_mul]
      congr 2
      omega
def cb (b : Nat) : Nat := cmN (b - 2)
def en (im : Nat → Nat) (x q i : Nat) : Nat := im (25 * x + 5 * q + i)
theorem wth_ne {bo : Nat → Nat} {s q b : Nat} (h : q ≠ s) (hb : bo (5 * s + q) = b) : wth bo s q = cb b := by rw [wth, if_neg h, hb]; rfl
theorem wth_eq {bo : Nat → Nat} {s : Nat} : wth bo s s = 55439 := if_pos rfl

def ac3 (w01 w02 w12 m : Nat) : Nat → Nat
  | 0 => cdL [(dgt m 0 + 55439 * dgt m 0) % 55441, (dgt m 1 + 55439 * dgt m 1) % 55441, (dgt m 2 + 55439 * dgt m 2) % 55441, (dgt m 3 + w01 * dgt m 0) % 55441, (dgt m 4 + w01 * dgt m 1) % 55441, (dgt m 5 + w01 * dgt m 2) % 55441, (dgt m 6 + w02 * dgt m 0) % 55441, (dgt m 7 + w02 * dgt m 1) % 55441, (dgt m 8 + w02 * dgt m 2) % 55441]
  | 1 => cdL [(dgt m 0 + w01 * dgt m 3) % 55441, (dgt m 1 + w01 * dgt m 4) % 55441, (dgt m 2 + w01 * dgt m 5) % 55441, (dgt m 3 + 55439 * dgt m 3) % 55441, (dgt m 4 + 55439 * dgt m 4) % 55441, (dgt m 5 + 55439 * dgt m 5) % 55441, (dgt m 6 + w12 * dgt m 3) % 55441, (dgt m 7 + w12 * dgt m 4) % 55441, (dgt m 8 + w12 * dgt m 5) % 55441]
  | _ => cdL [(dgt m 0 + w02 * dgt m 6) % 55441, (dgt m 1 + w02 * dgt m 7) % 55441, (dgt m 2 + w02 * dgt m 8) % 55441, (dgt m 3 + w12 * dgt m 6) % 55441, (dgt m 4 + w12 * dgt m 7) % 55441, (dgt m 5 + w12 * dgt m 8) % 55441, (dgt m 6 + 55439 * dgt m 6) % 55441, (dgt m 7 + 55439 * dgt m 7) % 55441, (dgt m 8 + 55439 * dgt m 8) % 55441]
def ck3 (b01 b02 b12 : Nat) : Bool := frc (cb b01) (fun w01 => frc (cb b02) (fun w02 => frc (cb b12) (fun w12 => frc (cdL [1, 0, 0, 0, 1, 0, 0, 0, 1]) (fun m0 => grN (ac3 w01 w02 w12) [0, 1, 2] 300 [m0] [m0] 1))))
set_option maxHeartbeats 8000000 in
theorem BAD3 {r : Nat} {bo : Nat → Nat} {j0 j1 j2 b01 b02 b12 : Nat} (h0 : j0 < r) (h1 : j1 < r) (h2 : j2 < r) (n01 : j0 ≠ j1) (p01 : bo (5 * j0 + j1) = b01) (q01 : bo (5 * j1 + j0) = b01) (n02 : j0 ≠ j2) (p02 : bo (5 * j0 + j2) = b02) (q02 : bo (5 * j2 + j0) = b02) (n12 : j1 ≠ j2) (p12 : bo (5 * j1 + j2) = b12) (q12 : bo (5 * j2 + j1) = b12) (hk : ck3 b01 b02 b12 = true) : BAD r bo := by
  intro im nn hn hn2 hc
  simp only [ck3, frc_eq] at hk
  refine orb_bad (A := ac3 (cb b01) (cb b02) (cb b12)) (ls := [0, 1, 2]) (f := fun x => cdL [en im x j0 j0, en im x j0 j1, en im x j0 j2, en im x j1 j0, en im x j1 j1, en im x j1 j2, en im x j2 j0, en im x j2 j1, en im x j2 j2]) ?_ hn hn2 ?_ hk
  · have z : ∀ q i, q < r → i < r → en im 0 q i = if q = i then 1 else 0 := fun q i a b => by
      have := hc.1 q i a b
      show im (25 * 0 + 5 * q + i) = _
      rw [show 25 * 0 + 5 * q + i = 5 * q + i by omega]
      exact this
    show cdL [en im 0 j0 j0, en im 0 j0 j1, en im 0 j0 j2, en im 0 j1 j0, en im 0 j1 j1, en im 0 j1 j2, en im 0 j2 j0, en im 0 j2 j1, en im 0 j2 j2] = cdL [1, 0, 0, 0, 1, 0, 0, 0, 1]
    rw [z j0 j0 h0 h0, z j0 j1 h0 h1, z j0 j2 h0 h2, z j1 j0 h1 h0, z j1 j1 h1 h1, z j1 j2 h1 h2, z j2 j0 h2 h0, z j2 j1 h2 h1, z j2 j2 h2 h2]
    simp [n01, Ne.symm n01, n02, Ne.symm n02, n12, Ne.symm n12]
  · intro x hx a ha
    have hlt : ∀ q i, q < r → i < r → en im x q i < 65536 := fun q i a b => Nat.lt_trans (hc.2.1 x q i hx a b) (by decide)
    have dg9 : ∀ jj, dgt (cdL [en im x j0 j0, en im x j0 j1, en im x j0 j2, en im x j1 j0, en im x j1 j1, en im x j1 j2, en im x j2 j0, en im x j2 j1, en im x j2 j2]) jj = [en im x j0 j0, en im x j0 j1, en im x j0 j2, en im x j1 j0, en im x j1 j1, en im x j1 j2, en im x j2 j0, en im x j2 j1, en im x j2 j2].getD jj 0 := fun jj => dgt_cd _ jj (by
      intro v hv
      simp only [List.mem_cons, List.not_mem_nil, or_false] at hv
      rcases hv with rfl | rfl | rfl | rfl | rfl | rfl | rfl | rfl | rfl
      <;> first | exact hlt _ _ h0 h0 | exact hlt _ _ h0 h1 | exact hlt _ _ h0 h2 | exact hlt _ _ h1 h0 | exact hlt _ _ h1 h1 | exact hlt _ _ h1 h2 | exact hlt _ _ h2 h0 | exact hlt _ _ h2 h1 | exact hlt _ _ h2 h2)
    have ha2 : a = 0 ∨ a = 1 ∨ a = 2 := by simpa using ha
    rcases ha2 with rfl | rfl | rfl
    · obtain ⟨y, hy, e⟩ := hc.2.2 x j0 h0 (Or.inl hx)
      refine ⟨y, hy, ?_⟩
      have e2 : ∀ q i, q < r → i < r → en im y q i = (en im x q i + wth bo j0 q * en im x j0 i) % 55441 := fun q i a b => e q i a b
      show cdL [en im y j0 j0, en im y j0 j1, en im y j0 j2, en im y j1 j0, en im y j1 j1, en im y j1 j2, en im y j2 j0, en im y j2 j1, en im y j2 j2] = ac3 (cb b01) (cb b02) (cb b12) (cdL [en im x j0 j0, en im x j0 j1, en im x j0 j2, en im x j1 j0, en im x j1 j1, en im x j1 j2, en im x j2 j0, en im x j2 j1, en im x j2 j2]) 0
      unfold ac3
      simp only [dg9]
      simp only [List.getD_cons_zero, List.getD_cons_succ]
      rw [e2 j0 j0 h0 h0, e2 j0 j1 h0 h1, e2 j0 j2 h0 h2, e2 j1 j0 h1 h0, e2 j1 j1 h1 h1, e2 j1 j2 h1 h2, e2 j2 j0 h2 h0, e2 j2 j1 h2 h1, e2 j2 j2 h2 h2, wth_eq, (wth_ne (s := j0) (q := j1) (Ne.symm n01) p01), (wth_ne (s := j0) (q := j2) (Ne.symm n02) p02)]
    · obtain ⟨y, hy, e⟩ := hc.2.2 x j1 h1 (Or.inl hx)
      refine ⟨y, hy, ?_⟩
      have e2 : ∀ q i, q < r → i < r → en im y q i = (en im x q i + wth bo j1 q * en im x j1 i) % 55441 := fun q i a b => e q i a b
      show cdL [en im y j0 j0, en im y j0 j1, en im y j0 j2, en im y j1 j0, en im y j1 j1, en im y j1 j2, en im y j2 j0, en im y j2 j1, en im y j2 j2] = ac3 (cb b01) (cb b02) (cb b12) (cdL [en im x j0 j0, en im x j0 j1, en im x j0 j2, en im x j1 j0, en im x j1 j1, en im x j1 j2, en im x j2 j0, en im x j2 j1, en im x j2 j2]) 1
      unfold ac3
      simp only [dg9]
      simp only [List.getD_cons_zero, List.getD_cons_succ]
      rw [e2 j0 j0 h0 h0, e2 j0 j1 h0 h1, e2 j0 j2 h0 h2, e2 j1 j0 h1 h0, e2 j1 j1 h1 h1, e2 j1 j2 h1 h2, e2 j2 j0 h2 h0, e2 j2 j1 h2 h1, e2 j2 j2 h2 h2, (wth_ne (s := j1) (q := j0) n01 q01), wth_eq, (wth_ne (s := j1) (q := j2) (Ne.symm n12) p12)]
    · obtain ⟨y, hy, e⟩ := hc.2.2 x j2 h2 (Or.inl hx)
      refine ⟨y, hy, ?_⟩
      have e2 : ∀ q i, q < r → i < r → en im y q i = (en im x q i + wth bo j2 q * en im x j2 i) % 55441 := fun q i a b => e q i a b
      show cdL [en im y j0 j0, en im y j0 j1, en im y j0 j2, en im y j1 j0, en im y j1 j1, en im y j1 j2, en im y j2 j0, en im y j2 j1, en im y j2 j2] = ac3 (cb b01) (cb b02) (cb b12) (cdL [en im x j0 j0, en im x j0 j1, en im x j0 j2, en im x j1 j0, en im x j1 j1, en im x j1 j2, en im x j2 j0, en im x j2 j1, en im x j2 j2]) 2
      unfold ac3
      simp only [dg9]
      simp only [List.getD_cons_zero, List.getD_cons_succ]
      rw [e2 j0 j0 h0 h0, e2 j0 j1 h0 h1, e2 j0 j2 h0 h2, e2 j1 j0 h1 h0, e2 j1 j1 h1 h1, e2 j1 j2 h1 h2, e2 j2 j0 h2 h0, e2 j2 j1 h2 h1, e2 j2 j2 h2 h2, (wth_ne (s := j2) (q := j0) n02 q02), (wth_ne (s := j2) (q := j1) n12 q12), wth_eq]

def ac4 (w01 w02 w12 w03 w13 w23 m : Nat) : Nat → Nat
  | 0 => cdL [(dgt m 0 + 55439 * dgt m 0) % 55441, (dgt m 1 + 55439 * dgt m 1) % 55441, (dgt m 2 + 55439 * dgt m 2) % 55441, (dgt m 3 + 55439 * dgt m 3) % 55441, (dgt m 4 + w01 * dgt m 0) % 55441, (dgt m 5 + w01 * dgt m 1) % 55441, (dgt m 6 + w01 * dgt m 2) % 55441, (dgt m 7 + w01 * dgt m 3) % 55441, (dgt m 8 + w02 * dgt m 0) % 55441, (dgt m 9 + w02 * dgt m 1) % 55441, (dgt m 10 + w02 * dgt m 2) % 55441, (dgt m 11 + w02 * dgt m 3) % 55441, (dgt m 12 + w03 * dgt m 0) % 55441, (dgt m 13 + w03 * dgt m 1) % 55441, (dgt m 14 + w03 * dgt m 2) % 55441, (dgt m 15 + w03 * dgt m 3) % 55441]
  | 1 => cdL [(dgt m 0 + w01 * dgt m 4) % 55441, (dgt m 1 + w01 * dgt m 5) % 55441, (dgt m 2 + w01 * dgt m 6) % 55441, (dgt m 3 + w01 * dgt m 7) % 55441, (dgt m 4 + 55439 * dgt m 4) % 55441, (dgt m 5 + 55439 * dgt m 5) % 55441, (dgt m 6 + 55439 * dgt m 6) % 55441, (dgt m 7 + 55439 * dgt m 7) % 55441, (dgt m 8 + w12 * dgt m 4) % 55441, (dgt m 9 + w12 * dgt m 5) % 55441, (dgt m 10 + w12 * dgt m 6) % 55441, (dgt m 11 + w12 * dgt m 7) % 55441, (dgt m 12 + w13 * dgt m 4) % 55441, (dgt m 13 + w13 * dgt m 5) % 55441, (dgt m 14 + w13 * dgt m 6) % 55441, (dgt m 15 + w13 * dgt m 7) % 55441]
  | 2 => cdL [(dgt m 0 + w02 * dgt m 8) % 55441, (dgt m 1 + w02 * dgt m 9) % 55441, (dgt m 2 + w02 * dgt m 10) % 55441, (dgt m 3 + w02 * dgt m 11) % 55441, (dgt m 4 + w12 * dgt m 8) % 55441, (dgt m 5 + w12 * dgt m 9) % 55441, (dgt m 6 + w12 * dgt m 10) % 55441, (dgt m 7 + w12 * dgt m 11) % 55441, (dgt m 8 + 55439 * dgt m 8) % 55441, (dgt m 9 + 55439 * dgt m 9) % 55441, (dgt m 10 + 55439 * dgt m 10) % 55441, (dgt m 11 + 55439 * dgt m 11) % 55441, (dgt m 12 + w23 * dgt m 8) % 55441, (dgt m 13 + w23 * dgt m 9) % 55441, (dgt m 14 + w23 * dgt m 10) % 55441, (dgt m 15 + w23 * dgt m 11) % 55441]
  | _ => cdL [(dgt m 0 + w03 * dgt m 12) % 55441, (dgt m 1 + w03 * dgt m 13) % 55441, (dgt m 2 + w03 * dgt m 14) % 55441, (dgt m 3 + w03 * dgt m 15) % 55441, (dgt m 4 + w13 * dgt m 12) % 55441, (dgt m 5 + w13 * dgt m 13) % 55441, (dgt m 6 + w13 * dgt m 14) % 55441, (dgt m 7 + w13 * dgt m 15) % 55441, (dgt m 8 + w23 * dgt m 12) % 55441, (dgt m 9 + w23 * dgt m 13) % 55441, (dgt m 10 + w23 * dgt m 14) % 55441, (dgt m 11 + w23 * dgt m 15) % 55441, (dgt m 12 + 55439 * dgt m 12) % 55441, (dgt m 13 + 55439 * dgt m 13) % 55441, (dgt m 14 + 55439 * dgt m 14) % 55441, (dgt m 15 + 55439 * dgt m 15) % 55441]
def ck4 (b01 b02 b12 b03 b13 b23 : Nat) : Bool := frc (cb b01) (fun w01 => frc (cb b02) (fun w02 => frc (cb b12) (fun w12 => frc (cb b03) (fun w03 => frc (cb b13) (fun w13 => frc (cb b23) (fun w23 => frc (cdL [1, 0, 0, 0, 0, 1, 0, 0, 0, 0, 1, 0, 0, 0, 0, 1]) (fun m0 => grN (ac4 w01 w02 w12 w03 w13 w23) [0, 1, 2, 3] 300 [m0] [m0] 1)))))))
set_option maxHeartbeats 8000000 in
theorem BAD4 {r : Nat} {bo : Nat → Nat} {j0 j1 j2 j3 b01 b02 b12 b03 b13 b23 : Nat} (h0 : j0 < r) (h1 : j1 < r) (h2 : j2 < r) (h3 : j3 < r) (n01 : j0 ≠ j1) (p01 : bo (5 * j0 + j1) = b01) (q01 : bo (5 * j1 + j0) = b01) (n02 : j0 ≠ j2) (p02 : bo (5 * j0 + j2) = b02) (q02 : bo (5 * j2 + j0) = b02) (n12 : j1 ≠ j2) (p12 : bo (5 * j1 + j2) = b12) (q12 : bo (5 * j2 + j1) = b12) (n03 : j0 ≠ j3) (p03 : bo (5 * j0 + j3) = b03) (q03 : bo (5 * j3 + j0) = b03) (n13 : j1 ≠ j3) (p13 : bo (5 * j1 + j3) = b13) (q13 : bo (5 * j3 + j1) = b13) (n23 : j2 ≠ j3) (p23 : bo (5 * j2 + j3) = b23) (q23 : bo (5 * j3 + j2) = b23) (hk : ck4 b01 b02 b12 b03 b13 b23 = true) : BAD r bo := by
  intro im nn hn hn2 hc
  simp only [ck4, frc_eq] at hk
  refine orb_bad (A := ac4 (cb b01) (cb b02) (cb b12) (cb b03) (cb b13) (cb b23)) (ls := [0, 1, 2, 3]) (f := fun x => cdL [en im x j0 j0, en im x j0 j1, en im x j0 j2, en im x j0 j3, en im x j1 j0, en im x j1 j1, en im x j1 j2, en im x j1 j3, en im x j2 j0, en im x j2 j1, en im x j2 j2, en im x j2 j3, en im x j3 j0, en im x j3 j1, en im x j3 j2, en im x j3 j3]) ?_ hn hn2 ?_ hk
  · have z : ∀ q i, q < r → i < r → en im 0 q i = if q = i then 1 else 0 := fun q i a b => by
      have := hc.1 q i a b
      show im (25 * 0 + 5 * q + i) = _
      rw [show 25 * 0 + 5 * q + i = 5 * q + i by omega]
      exact this
    show cdL [en im 0 j0 j0, en im 0 j0 j1, en im 0 j0 j2, en im 0 j0 j3, en im 0 j1 j0, en im 0 j1 j1, en im 0 j1 j2, en im 0 j1 j3, en im 0 j2 j0, en im 0 j2 j1, en im 0 j2 j2, en im 0 j2 j3, en im 0 j3 j0, en im 0 j3 j1, en im 0 j3 j2, en im 0 j3 j3] = cdL [1, 0, 0, 0, 0, 1, 0, 0, 0, 0, 1, 0, 0, 0, 0, 1]
    rw [z j0 j0 h0 h0, z j0 j1 h0 h1, z j0 j2 h0 h2, z j0 j3 h0 h3, z j1 j0 h1 h0, z j1 j1 h1 h1, z j1 j2 h1 h2, z j1 j3 h1 h3, z j2 j0 h2 h0, z j2 j1 h2 h1, z j2 j2 h2 h2, z j2 j3 h2 h3, z j3 j0 h3 h0, z j3 j1 h3 h1, z j3 j2 h3 h2, z j3 j3 h3 h3]
    simp [n01, Ne.symm n01, n02, Ne.symm n02, n12, Ne.symm n12, n03, Ne.symm n03, n13, Ne.symm n13, n23, Ne.symm n23]
  · intro x hx a ha
    have hlt : ∀ q i, q < r → i < r → en im x q i < 65536 := fun q i a b => Nat.lt_trans (hc.2.1 x q i hx a b) (by decide)
    have dg9 : ∀ jj, dgt (cdL [en im x j0 j0, en im x j0 j1, en im x j0 j2, en im x j0 j3, en im x j1 j0, en im x j1 j1, en im x j1 j2, en im x j1 j3, en im x j2 j0, en im x j2 j1, en im x j2 j2, en im x j2 j3, en im x j3 j0, en im x j3 j1, en im x j3 j2, en im x j3 j3]) jj = [en im x j0 j0, en im x j0 j1, en im x j0 j2, en im x j0 j3, en im x j1 j0, en im x j1 j1, en im x j1 j2, en im x j1 j3, en im x j2 j0, en im x j2 j1, en im x j2 j2, en im x j2 j3, en im x j3 j0, en im x j3 j1, en im x j3 j2, en im x j3 j3].getD jj 0 := fun jj => dgt_cd _ jj (by
      intro v hv
      simp only [List.mem_cons, List.not_mem_nil, or_false] at hv
      rcases hv with rfl | rfl | rfl | rfl | rfl | rfl | rfl | rfl | rfl | rfl | rfl | rfl | rfl | rfl | rfl | rfl
      <;> first | exact hlt _ _ h0 h0 | exact hlt _ _ h0 h1 | exact hlt _ _ h0 h2 | exact hlt _ _ h0 h3 | exact hlt _ _ h1 h0 | exact hlt _ _ h1 h1 | exact hlt _ _ h1 h2 | exact hlt _ _ h1 h3 | exact hlt _ _ h2 h0 | exact hlt _ _ h2 h1 | exact hlt _ _ h2 h2 | exact hlt _ _ h2 h3 | exact hlt _ _ h3 h0 | exact hlt _ _ h3 h1 | exact hlt _ _ h3 h2 | exact hlt _ _ h3 h3)
    have ha2 : a = 0 ∨ a = 1 ∨ a = 2 ∨ a = 3 := by simpa using ha
    rcases ha2 with rfl | rfl | rfl | rfl
    · obtain ⟨y, hy, e⟩ := hc.2.2 x j0 h0 (Or.inl hx)
      refine ⟨y, hy, ?_⟩
      have e2 : ∀ q i, q < r → i < r → en im y q i = (en im x q i + wth bo j0 q * en im x j0 i) % 55441 := fun q i a b => e q i a b
      show cdL [en im y j0 j0, en im y j0 j1, en im y j0 j2, en im y j0 j3, en im y j1 j0, en im y j1 j1, en im y j1 j2, en im y j1 j3, en im y j2 j0, en im y j2 j1, en im y j2 j2, en im y j2 j3, en im y j3 j0, en im y j3 j1, en im y j3 j2, en im y j3 j3] = ac4 (cb b01) (cb b02) (cb b12) (cb b03) (cb b13) (cb b23) (cdL [en im x j0 j0, en im x j0 j1, en im x j0 j2, en im x j0 j3, en im x j1 j0, en im x j1 j1, en im x j1 j2, en im x j1 j3, en im x j2 j0, en im x j2 j1, en im x j2 j2, en im x j2 j3, en im x j3 j0, en im x j3 j1, en im x j3 j2, en im x j3 j3]) 0
      unfold ac4
      simp only [dg9]
      simp only [List.getD_cons_zero, List.getD_cons_succ]
      rw [e2 j0 j0 h0 h0, e2 j0 j1 h0 h1, e2 j0 j2 h0 h2, e2 j0 j3 h0 h3, e2 j1 j0 h1 h0, e2 j1 j1 h1 h1, e2 j1 j2 h1 h2, e2 j1 j3 h1 h3, e2 j2 j0 h2 h0, e2 j2 j1 h2 h1, e2 j2 j2 h2 h2, e2 j2 j3 h2 h3, e2 j3 j0 h3 h0, e2 j3 j1 h3 h1, e2 j3 j2 h3 h2, e2 j3 j3 h3 h3, wth_eq, (wth_ne (s := j0) (q := j1) (Ne.symm n01) p01), (wth_ne (s := j0) (q := j2) (Ne.symm n02) p02), (wth_ne (s := j0) (q := j3) (Ne.symm n03) p03)]
    · obtain ⟨y, hy, e⟩ := hc.2.2 x j1 h1 (Or.inl hx)
      refine ⟨y, hy, ?_⟩
      have e2 : ∀ q i, q < r → i < r → en im y q i = (en im x q i + wth bo j1 q * en im x j1 i) % 55441 := fun q i a b => e q i a b
      show cdL [en im y j0 j0, en im y j0 j1, en im y j0 j2, en im y j0 j3, en im y j1 j0, en im y j1 j1, en im y j1 j2, en im y j1 j3, en im y j2 j0, en im y j2 j1, en im y j2 j2, en im y j2 j3, en im y j3 j0, en im y j3 j1, en im y j3 j2, en im y j3 j3] = ac4 (cb b01) (cb b02) (cb b12) (cb b03) (cb b13) (cb b23) (cdL [en im x j0 j0, en im x j0 j1, en im x j0 j2, en im x j0 j3, en im x j1 j0, en im x j1 j1, en im x j1 j2, en im x j1 j3, en im x j2 j0, en im x j2 j1, en im x j2 j2, en im x j2 j3, en im x j3 j0, en im x j3 j1, en im x j3 j2, en im x j3 j3]) 1
      unfold ac4
      simp only [dg9]
      simp only [List.getD_cons_zero, List.getD_cons_succ]
      rw [e2 j0 j0 h0 h0, e2 j0 j1 h0 h1, e2 j0 j2 h0 h2, e2 j0 j3 h0 h3, e2 j1 j0 h1 h0, e2 j1 j1 h1 h1, e2 j1 j2 h1 h2, e2 j1 j3 h1 h3, e2 j2 j0 h2 h0, e2 j2 j1 h2 h1, e2 j2 j2 h2 h2, e2 j2 j3 h2 h3, e2 j3 j0 h3 h0, e2 j3 j1 h3 h1, e2 j3 j2 h3 h2, e2 j3 j3 h3 h3, (wth_ne (s := j1) (q := j0) n01 q01), wth_eq, (wth_ne (s := j1) (q := j2) (Ne.symm n12) p12), (wth_ne (s := j1) (q := j3) (Ne.symm n13) p13)]
    · obtain ⟨y, hy, e⟩ := hc.2.2 x j2 h2 (Or.inl hx)
      refine ⟨y, hy, ?_⟩
      have e2 : ∀ q i, q < r → i < r → en im y q i = (en im x q i + wth bo j2 q * en im x j2 i) % 55441 := fun q i a b => e q i a b
      show cdL [en im y j0 j0, en im y j0 j1, en im y j0 j2, en im y j0 j3, en im y j1 j0, en im y j1 j1, en im y j1 j2, en im y j1 j3, en im y j2 j0, en im y j2 j1, en im y j2 j2, en im y j2 j3, en im y j3 j0, en im y j3 j1, en im y j3 j2, en im y j3 j3] = ac4 (cb b01) (cb b02) (cb b12) (cb b03) (cb b13) (cb b23) (cdL [en im x j0 j0, en im x j0 j1, en im x j0 j2, en im x j0 j3, en im x j1 j0, en im x j1 j1, en im x j1 j2, en im x j1 j3, en im x j2 j0, en im x j2 j1, en im x j2 j2, en im x j2 j3, en im x j3 j0, en im x j3 j1, en im x j3 j2, en im x j3 j3]) 2
      unfold ac4
      simp only [dg9]
      simp only [List.getD_cons_zero, List.getD_cons_succ]
      rw [e2 j0 j0 h0 h0, e2 j0 j1 h0 h1, e2 j0 j2 h0 h2, e2 j0 j3 h0 h3, e2 j1 j0 h1 h0, e2 j1 j1 h1 h1, e2 j1 j2 h1 h2, e2 j1 j3 h1 h3, e2 j2 j0 h2 h0, e2 j2 j1 h2 h1, e2 j2 j2 h2 h2, e2 j2 j3 h2 h3, e2 j3 j0 h3 h0, e2 j3 j1 h3 h1, e2 j3 j2 h3 h2, e2 j3 j3 h3 h3, (wth_ne (s := j2) (q := j0) n02 q02), (wth_ne (s := j2) (q := j1) n12 q12), wth_eq, (wth_ne (s := j2) (q := j3) (Ne.symm n23) p23)]
    · obtain ⟨y, hy, e⟩ := hc.2.2 x j3 h3 (Or.inl hx)
      refine ⟨y, hy, ?_⟩
      have e2 : ∀ q i, q < r → i < r → en im y q i = (en im x q i + wth bo j3 q * en im x j3 i) % 55441 := fun q i a b => e q i a b
      show cdL [en im y j0 j0, en im y j0 j1, en im y j0 j2, en im y j0 j3, en im y j1 j0, en im y j1 j1, en im y j1 j2, en im y j1 j3, en im y j2 j0, en im y j2 j1, en im y j2 j2, en im y j2 j3, en im y j3 j0, en im y j3 j1, en im y j3 j2, en im y j3 j3] = ac4 (cb b01) (cb b02) (cb b12) (cb b03) (cb b13) (cb b23) (cdL [en im x j0 j0, en im x j0 j1, en im x j0 j2, en im x j0 j3, en im x j1 j0, en im x j1 j1, en im x j1 j2, en im x j1 j3, en im x j2 j0, en im x j2 j1, en im x j2 j2, en im x j2 j3, en im x j3 j0, en im x j3 j1, en im x j3 j2, en im x j3 j3]) 3
      unfold ac4
      simp only [dg9]
      simp only [List.getD_cons_zero, List.getD_cons_succ]
      rw [e2 j0 j0 h0 h0, e2 j0 j1 h0 h1, e2 j0 j2 h0 h2, e2 j0 j3 h0 h3, e2 j1 j0 h1 h0, e2 j1 j1 h1 h1, e2 j1 j2 h1 h2, e2 j1 j3 h1 h3, e2 j2 j0 h2 h0, e2 j2 j1 h2 h1, e2 j2 j2 h2 h2, e2 j2 j3 h2 h3, e2 j3 j0 h3 h0, e2 j3 j1 h3 h1, e2 j3 j2 h3 h2, e2 j3 j3 h3 h3, (wth_ne (s := j3) (q := j0) n03 q03), (wth_ne (s := j3) (q := j1) n13 q13), (wth_ne (s := j3) (q := j2) n23 q23), wth_eq]

def ac5 (w01 w02 w12 w03 w13 w23 w04 w14 w24 w34 m : Nat) : Nat → Nat
  | 0 => cdL [(dgt m 0 + 55439 * dgt m 0) % 55441, (dgt m 1 + 55439 * dgt m 1) % 55441, (dgt m 2 + 55439 * dgt m 2) % 55441, (dgt m 3 + 55439 * dgt m 3) % 55441, (dgt m 4 + 55439 * dgt m 4) % 55441, (dgt m 5 + w01 * dgt m 0) % 55441, (dgt m 6 + w01 * dgt m 1) % 55441, (dgt m 7 + w01 * dgt m 2) % 55441, (dgt m 8 + w01 * dgt m 3) % 55441, (dgt m 9 + w01 * dgt m 4) % 55441, (dgt m 10 + w02 * dgt m 0) % 55441, (dgt m 11 + w02 * dgt m 1) % 55441, (dgt m 12 + w02 * dgt m 2) % 55441, (dgt m 13 + w02 * dgt m 3) % 55441, (dgt m 14 + w02 * dgt m 4) % 55441, (dgt m 15 + w03 * dgt m 0) % 55441, (dgt m 16 + w03 * dgt m 1) % 55441, (dgt m 17 + w03 * dgt m 2) % 55441, (dgt m 18 + w03 * dgt m 3) % 55441, (dgt m 19 + w03 * dgt m 4) % 55441, (dgt m 20 + w04 * dgt m 0) % 55441, (dgt m 21 + w04 * dgt m 1) % 55441, (dgt m 22 + w04 * dgt m 2) % 55441, (dgt m 23 + w04 * dgt m 3) % 55441, (dgt m 24 + w04 * dgt m 4) % 55441]
  | 1 => cdL [(dgt m 0 + w01 * dgt m 5) % 55441, (dgt m 1 + w01 * dgt m 6) % 55441, (dgt m 2 + w01 * dgt m 7) % 55441, (dgt m 3 + w01 * dgt m 8) % 55441, (dgt m 4 + w01 * dgt m 9) % 55441, (dgt m 5 + 55439 * dgt m 5) % 55441, (dgt m 6 + 55439 * dgt m 6) % 55441, (dgt m 7 + 55439 * dgt m 7) % 55441, (dgt m 8 + 55439 * dgt m 8) % 55441, (dgt m 9 + 55439 * dgt m 9) % 55441, (dgt m 10 + w12 * dgt m 5) % 55441, (dgt m 11 + w12 * dgt m 6) % 55441, (dgt m 12 + w12 * dgt m 7) % 55441, (dgt m 13 + w12 * dgt m 8) % 55441, (dgt m 14 + w12 * dgt m 9) % 55441, (dgt m 15 + w13 * dgt m 5) % 55441, (dgt m 16 + w13 * dgt m 6) % 55441, (dgt m 17 + w13 * dgt m 7) % 55441, (dgt m 18 + w13 * dgt m 8) % 55441, (dgt m 19 + w13 * dgt m 9) % 55441, (dgt m 20 + w14 * dgt m 5) % 55441, (dgt m 21 + w14 * dgt m 6) % 55441, (dgt m 22 + w14 * dgt m 7) % 55441, (dgt m 23 + w14 * dgt m 8) % 55441, (dgt m 24 + w14 * dgt m 9) % 55441]
  | 2 => cdL [(dgt m 0 + w02 * dgt m 10) % 55441, (dgt m 1 + w02 * dgt m 11) % 55441, (dgt m 2 + w02 * dgt m 12) % 55441, (dgt m 3 + w02 * dgt m 13) % 55441, (dgt m 4 + w02 * dgt m 14) % 55441, (dgt m 5 + w12 * dgt m 10) % 55441, (dgt m 6 + w12 * dgt m 11) % 55441, (dgt m 7 + w12 * dgt m 12) % 55441, (dgt m 8 + w12 * dgt m 13) % 55441, (dgt m 9 + w12 * dgt m 14) % 55441, (dgt m 10 + 55439 * dgt m 10) % 55441, (dgt m 11 + 55439 * dgt m 11) % 55441, (dgt m 12 + 55439 * dgt m 12) % 55441, (dgt m 13 + 55439 * dgt m 13) % 55441, (dgt m 14 + 55439 * dgt m 14) % 55441, (dgt m 15 + w23 * dgt m 10) % 55441, (dgt m 16 + w23 * dgt m 11) % 55441, (dgt m 17 + w23 * dgt m 12) % 55441, (dgt m 18 + w23 * dgt m 13) % 55441, (dgt m 19 + w23 * dgt m 14) % 55441, (dgt m 20 + w24 * dgt m 10) % 55441, (dgt m 21 + w24 * dgt m 11) % 55441, (dgt m 22 + w24 * dgt m 12) % 55441, (dgt m 23 + w24 * dgt m 13) % 55441, (dgt m 24 + w24 * dgt m 14) % 55441]
  | 3 => cdL [(dgt m 0 + w03 * dgt m 15) % 55441, (dgt m 1 + w03 * dgt m 16) % 55441, (dgt m 2 + w03 * dgt m 17) % 55441, (dgt m 3 + w03 * dgt m 18) % 55441, (dgt m 4 + w03 * dgt m 19) % 55441, (dgt m 5 + w13 * dgt m 15) % 55441, (dgt m 6 + w13 * dgt m 16) % 55441, (dgt m 7 + w13 * dgt m 17) % 55441, (dgt m 8 + w13 * dgt m 18) % 55441, (dgt m 9 + w13 * dgt m 19) % 55441, (dgt m 10 + w23 * dgt m 15) % 55441, (dgt m 11 + w23 * dgt m 16) % 55441, (dgt m 12 + w23 * dgt m 17) % 55441, (dgt m 13 + w23 * dgt m 18) % 55441, (dgt m 14 + w23 * dgt m 19) % 55441, (dgt m 15 + 55439 * dgt m 15) % 55441, (dgt m 16 + 55439 * dgt m 16) % 55441, (dgt m 17 + 55439 * dgt m 17) % 55441, (dgt m 18 + 55439 * dgt m 18) % 55441, (dgt m 19 + 55439 * dgt m 19) % 55441, (dgt m 20 + w34 * dgt m 15) % 55441, (dgt m 21 + w34 * dgt m 16) % 55441, (dgt m 22 + w34 * dgt m 17) % 55441, (dgt m 23 + w34 * dgt m 18) % 55441, (dgt m 24 + w34 * dgt m 19) % 55441]
  | _ => cdL [(dgt m 0 + w04 * dgt m 20) % 55441, (dgt m 1 + w04 * dgt m 21) % 55441, (dgt m 2 + w04 * dgt m 22) % 55441, (dgt m 3 + w04 * dgt m 23) % 55441, (dgt m 4 + w04 * dgt m 24) % 55441, (dgt m 5 + w14 * dgt m 20) % 55441, (dgt m 6 + w14 * dgt m 21) % 55441, (dgt m 7 + w14 * dgt m 22) % 55441, (dgt m 8 + w14 * dgt m 23) % 55441, (dgt m 9 + w14 * dgt m 24) % 55441, (dgt m 10 + w24 * dgt m 20) % 55441, (dgt m 11 + w24 * dgt m 21) % 55441, (dgt m 12 + w24 * dgt m 22) % 55441, (dgt m 13 + w24 * dgt m 23) % 55441, (dgt m 14 + w24 * dgt m 24) % 55441, (dgt m 15 + w34 * dgt m 20) % 55441, (dgt m 16 + w34 * dgt m 21) % 55441, (dgt m 17 + w34 * dgt m 22) % 55441, (dgt m 18 + w34 * dgt m 23) % 55441, (dgt m 19 + w34 * dgt m 24) % 55441, (dgt m 20 + 55439 * dgt m 20) % 55441, (dgt m 21 + 55439 * dgt m 21) % 55441, (dgt m 22 + 55439 * dgt m 22) % 55441, (dgt m 23 + 55439 * dgt m 23) % 55441, (dgt m 24 + 55439 * dgt m 24) % 55441]
def ck5 (b01 b02 b12 b03 b13 b23 b04 b14 b24 b34 : Nat) : Bool := frc (cb b01) (fun w01 => frc (cb b02) (fun w02 => frc (cb b12) (fun w12 => frc (cb b03) (fun w03 => frc (cb b13) (fun w13 => frc (cb b23) (fun w23 => frc (cb b04) (fun w04 => frc (cb b14) (fun w14 => frc (cb b24) (fun w24 => frc (cb b34) (fun w34 => frc (cdL [1, 0, 0, 0, 0, 0, 1, 0, 0, 0, 0, 0, 1, 0, 0, 0, 0, 0, 1, 0, 0, 0, 0, 0, 1]) (fun m0 => grN (ac5 w01 w02 w12 w03 w13 w23 w04 w14 w24 w34) [0, 1, 2, 3, 4] 300 [m0] [m0] 1)))))))))))
set_option maxHeartbeats 8000000 in
theorem BAD5 {r : Nat} {bo : Nat → Nat} {j0 j1 j2 j3 j4 b01 b02 b12 b03 b13 b23 b04 b14 b24 b34 : Nat} (h0 : j0 < r) (h1 : j1 < r) (h2 : j2 < r) (h3 : j3 < r) (h4 : j4 < r) (n01 : j0 ≠ j1) (p01 : bo (5 * j0 + j1) = b01) (q01 : bo (5 * j1 + j0) = b01) (n02 : j0 ≠ j2) (p02 : bo (5 * j0 + j2) = b02) (q02 : bo (5 * j2 + j0) = b02) (n12 : j1 ≠ j2) (p12 : bo (5 * j1 + j2) = b12) (q12 : bo (5 * j2 + j1) = b12) (n03 : j0 ≠ j3) (p03 : bo (5 * j0 + j3) = b03) (q03 : bo (5 * j3 + j0) = b03) (n13 : j1 ≠ j3) (p13 : bo (5 * j1 + j3) = b13) (q13 : bo (5 * j3 + j1) = b13) (n23 : j2 ≠ j3) (p23 : bo (5 * j2 + j3) = b23) (q23 : bo (5 * j3 + j2) = b23) (n04 : j0 ≠ j4) (p04 : bo (5 * j0 + j4) = b04) (q04 : bo (5 * j4 + j0) = b04) (n14 : j1 ≠ j4) (p14 : bo (5 * j1 + j4) = b14) (q14 : bo (5 * j4 + j1) = b14) (n24 : j2 ≠ j4) (p24 : bo (5 * j2 + j4) = b24) (q24 : bo (5 * j4 + j2) = b24) (n34 : j3 ≠ j4) (p34 : bo (5 * j3 + j4) = b34) (q34 : bo (5 * j4 + j3) = b34) (hk : ck5 b01 b02 b12 b03 b13 b23 b04 b14 b24 b34 = true) : BAD r bo := by
  intro im nn hn hn2 hc
  simp only [ck5, frc_eq] at hk
  refine orb_bad (A := ac5 (cb b01) (cb b02) (cb b12) (cb b03) (cb b13) (cb b23) (cb b04) (cb b14) (cb b24) (cb b34)) (ls := [0, 1, 2, 3, 4]) (f := fun x => cdL [en im x j0 j0, en im x j0 j1, en im x j0 j2, en im x j0 j3, en im x j0 j4, en im x j1 j0, en im x j1 j1, en im x j1 j2, en im x j1 j3, en im x j1 j4, en im x j2 j0, en im x j2 j1, en im x j2 j2, en im x j2 j3, en im x j2 j4, en im x j3 j0, en im x j3 j1, en im x j3 j2, en im x j3 j3, en im x j3 j4, en im x j4 j0, en im x j4 j1, en im x j4 j2, en im x j4 j3, en im x j4 j4]) ?_ hn hn2 ?_ hk
  · have z : ∀ q i, q < r → i < r → en im 0 q i = if q = i then 1 else 0 := fun q i a b => by
      have := hc.1 q i a b
      show im (25 * 0 + 5 * q + i) = _
      rw [show 25 * 0 + 5 * q + i = 5 * q + i by omega]
      exact this
    show cdL [en im 0 j0 j0, en im 0 j0 j1, en im 0 j0 j2, en im 0 j0 j3, en im 0 j0 j4, en im 0 j1 j0, en im 0 j1 j1, en im 0 j1 j2, en im 0 j1 j3, en im 0 j1 j4, en im 0 j2 j0, en im 0 j2 j1, en im 0 j2 j2, en im 0 j2 j3, en im 0 j2 j4, en im 0 j3 j0, en im 0 j3 j1, en im 0 j3 j2, en im 0 j3 j3, en im 0 j3 j4, en im 0 j4 j0, en im 0 j4 j1, en im 0 j4 j2, en im 0 j4 j3, en im 0 j4 j4] = cdL [1, 0, 0, 0, 0, 0, 1, 0, 0, 0, 0, 0, 1, 0, 0, 0, 0, 0, 1, 0, 0, 0, 0, 0, 1]
    rw [z j0 j0 h0 h0, z j0 j1 h0 h1, z j0 j2 h0 h2, z j0 j3 h0 h3, z j0 j4 h0 h4, z j1 j0 h1 h0, z j1 j1 h1 h1, z j1 j2 h1 h2, z j1 j3 h1 h3, z j1 j4 h1 h4, z j2 j0 h2 h0, z j2 j1 h2 h1, z j2 j2 h2 h2, z j2 j3 h2 h3, z j2 j4 h2 h4, z j3 j0 h3 h0, z j3 j1 h3 h1, z j3 j2 h3 h2, z j3 j3 h3 h3, z j3 j4 h3 h4, z j4 j0 h4 h0, z j4 j1 h4 h1, z j4 j2 h4 h2, z j4 j3 h4 h3, z j4 j4 h4 h4]
    simp [n01, Ne.symm n01, n02, Ne.symm n02, n12, Ne.symm n12, n03, Ne.symm n03, n13, Ne.symm n13, n23, Ne.symm n23, n04, Ne.symm n04, n14, Ne.symm n14, n24, Ne.symm n24, n34, Ne.symm n34]
  · intro x hx a ha
    have hlt : ∀ q i, q < r → i < r → en im x q i < 65536 := fun q i a b => Nat.lt_trans (hc.2.1 x q i hx a b) (by decide)
    have dg9 : ∀ jj, dgt (cdL [en im x j0 j0, en im x j0 j1, en im x j0 j2, en im x j0 j3, en im x j0 j4, en im x j1 j0, en im x j1 j1, en im x j1 j2, en im x j1 j3, en im x j1 j4, en im x j2 j0, en im x j2 j1, en im x j2 j2, en im x j2 j3, en im x j2 j4, en im x j3 j0, en im x j3 j1, en im x j3 j2, en im x j3 j3, en im x j3 j4, en im x j4 j0, en im x j4 j1, en im x j4 j2, en im x j4 j3, en im x j4 j4]) jj = [en im x j0 j0, en im x j0 j1, en im x j0 j2, en im x j0 j3, en im x j0 j4, en im x j1 j0, en im x j1 j1, en im x j1 j2, en im x j1 j3, en im x j1 j4, en im x j2 j0, en im x j2 j1, en im x j2 j2, en im x j2 j3, en im x j2 j4, en im x j3 j0, en im x j3 j1, en im x j3 j2, en im x j3 j3, en im x j3 j4, en im x j4 j0, en im x j4 j1, en im x j4 j2, en im x j4 j3, en im x j4 j4].getD jj 0 := fun jj => dgt_cd _ jj (by
      intro v hv
      simp only [List.mem_cons, List.not_mem_nil, or_false] at hv
      rcases hv with rfl | rfl | rfl | rfl | rfl | rfl | rfl | rfl | rfl | rfl | rfl | rfl | rfl | rfl | rfl | rfl | rfl | rfl | rfl | rfl | rfl | rfl | rfl | rfl | rfl
      <;> first | exact hlt _ _ h0 h0 | exact hlt _ _ h0 h1 | exact hlt _ _ h0 h2 | exact hlt _ _ h0 h3 | exact hlt _ _ h0 h4 | exact hlt _ _ h1 h0 | exact hlt _ _ h1 h1 | exact hlt _ _ h1 h2 | exact hlt _ _ h1 h3 | exact hlt _ _ h1 h4 | exact hlt _ _ h2 h0 | exact hlt _ _ h2 h1 | exact hlt _ _ h2 h2 | exact hlt _ _ h2 h3 | exact hlt _ _ h2 h4 | exact hlt _ _ h3 h0 | exact hlt _ _ h3 h1 | exact hlt _ _ h3 h2 | exact hlt _ _ h3 h3 | exact hlt _ _ h3 h4 | exact hlt _ _ h4 h0 | exact hlt _ _ h4 h1 | exact hlt _ _ h4 h2 | exact hlt _ _ h4 h3 | exact hlt _ _ h4 h4)
    have ha2 : a = 0 ∨ a = 1 ∨ a = 2 ∨ a = 3 ∨ a = 4 := by simpa using ha
    rcases ha2 with rfl | rfl | rfl | rfl | rfl
    · obtain ⟨y, hy, e⟩ := hc.2.2 x j0 h0 (Or.inl hx)
      refine ⟨y, hy, ?_⟩
      have e2 : ∀ q i, q < r → i < r → en im y q i = (en im x q i + wth bo j0 q * en im x j0 i) % 55441 := fun q i a b => e q i a b
      show cdL [en im y j0 j0, en im y j0 j1, en im y j0 j2, en im y j0 j3, en im y j0 j4, en im y j1 j0, en im y j1 j1, en im y j1 j2, en im y j1 j3, en im y j1 j4, en im y j2 j0, en im y j2 j1, en im y j2 j2, en im y j2 j3, en im y j2 j4, en im y j3 j0, en im y j3 j1, en im y j3 j2, en im y j3 j3, en im y j3 j4, en im y j4 j0, en im y j4 j1, en im y j4 j2, en im y j4 j3, en im y j4 j4] = ac5 (cb b01) (cb b02) (cb b12) (cb b03) (cb b13) (cb b23) (cb b04) (cb b14) (cb b24) (cb b34) (cdL [en im x j0 j0, en im x j0 j1, en im x j0 j2, en im x j0 j3, en im x j0 j4, en im x j1 j0, en im x j1 j1, en im x j1 j2, en im x j1 j3, en im x j1 j4, en im x j2 j0, en im x j2 j1, en im x j2 j2, en im x j2 j3, en im x j2 j4, en im x j3 j0, en im x j3 j1, en im x j3 j2, en im x j3 j3, en im x j3 j4, en im x j4 j0, en im x j4 j1, en im x j4 j2, en im x j4 j3, en im x j4 j4]) 0
      unfold ac5
      simp only [dg9]
      simp only [List.getD_cons_zero, List.getD_cons_succ]
      rw [e2 j0 j0 h0 h0, e2 j0 j1 h0 h1, e2 j0 j2 h0 h2, e2 j0 j3 h0 h3, e2 j0 j4 h0 h4, e2 j1 j0 h1 h0, e2 j1 j1 h1 h1, e2 j1 j2 h1 h2, e2 j1 j3 h1 h3, e2 j1 j4 h1 h4, e2 j2 j0 h2 h0, e2 j2 j1 h2 h1, e2 j2 j2 h2 h2, e2 j2 j3 h2 h3, e2 j2 j4 h2 h4, e2 j3 j0 h3 h0, e2 j3 j1 h3 h1, e2 j3 j2 h3 h2, e2 j3 j3 h3 h3, e2 j3 j4 h3 h4, e2 j4 j0 h4 h0, e2 j4 j1 h4 h1, e2 j4 j2 h4 h2, e2 j4 j3 h4 h3, e2 j4 j4 h4 h4, wth_eq, (wth_ne (s := j0) (q := j1) (Ne.symm n01) p01), (wth_ne (s := j0) (q := j2) (Ne.symm n02) p02), (wth_ne (s := j0) (q := j3) (Ne.symm n03) p03), (wth_ne (s := j0) (q := j4) (Ne.symm n04) p04)]
    · obtain ⟨y, hy, e⟩ := hc.2.2 x j1 h1 (Or.inl hx)
      refine ⟨y, hy, ?_⟩
      have e2 : ∀ q i, q < r → i < r → en im y q i = (en im x q i + wth bo j1 q * en im x j1 i) % 55441 := fun q i a b => e q i a b
      show cdL [en im y j0 j0, en im y j0 j1, en im y j0 j2, en im y j0 j3, en im y j0 j4, en im y j1 j0, en im y j1 j1, en im y j1 j2, en im y j1 j3, en im y j1 j4, en im y j2 j0, en im y j2 j1, en im y j2 j2, en im y j2 j3, en im y j2 j4, en im y j3 j0, en im y j3 j1, en im y j3 j2, en im y j3 j3, en im y j3 j4, en im y j4 j0, en im y j4 j1, en im y j4 j2, en im y j4 j3, en im y j4 j4] = ac5 (cb b01) (cb b02) (cb b12) (cb b03) (cb b13) (cb b23) (cb b04) (cb b14) (cb b24) (cb b34) (cdL [en im x j0 j0, en im x j0 j1, en im x j0 j2, en im x j0 j3, en im x j0 j4, en im x j1 j0, en im x j1 j1, en im x j1 j2, en im x j1 j3, en im x j1 j4, en im x j2 j0, en im x j2 j1, en im x j2 j2, en im x j2 j3, en im x j2 j4, en im x j3 j0, en im x j3 j1, en im x j3 j2, en im x j3 j3, en im x j3 j4, en im x j4 j0, en im x j4 j1, en im x j4 j2, en im x j4 j3, en im x j4 j4]) 1
      unfold ac5
      simp only [dg9]
      simp only [List.getD_cons_zero, List.getD_cons_succ]
      rw [e2 j0 j0 h0 h0, e2 j0 j1 h0 h1, e2 j0 j2 h0 h2, e2 j0 j3 h0 h3, e2 j0 j4 h0 h4, e2 j1 j0 h1 h0, e2 j1 j1 h1 h1, e2 j1 j2 h1 h2, e2 j1 j3 h1 h3, e2 j1 j4 h1 h4, e2 j2 j0 h2 h0, e2 j2 j1 h2 h1, e2 j2 j2 h2 h2, e2 j2 j3 h2 h3, e2 j2 j4 h2 h4, e2 j3 j0 h3 h0, e2 j3 j1 h3 h1, e2 j3 j2 h3 h2, e2 j3 j3 h3 h3, e2 j3 j4 h3 h4, e2 j4 j0 h4 h0, e2 j4 j1 h4 h1, e2 j4 j2 h4 h2, e2 j4 j3 h4 h3, e2 j4 j4 h4 h4, (wth_ne (s := j1) (q := j0) n01 q01), wth_eq, (wth_ne (s := j1) (q := j2) (Ne.symm n12) p12), (wth_ne (s := j1) (q := j3) (Ne.symm n13) p13), (wth_ne (s := j1) (q := j4) (Ne.symm n14) p14)]
    · obtain ⟨y, hy, e⟩ := hc.2.2 x j2 h2 (Or.inl hx)
      refine ⟨y, hy, ?_⟩
      have e2 : ∀ q i, q < r → i < r → en im y q i = (en im x q i + wth bo j2 q * en im x j2 i) % 55441 := fun q i a b => e q i a b
      show cdL [en im y j0 j0, en im y j0 j1, en im y j0 j2, en im y j0 j3, en im y j0 j4, en im y j1 j0, en im y j1 j1, en im y j1 j2, en im y j1 j3, en im y j1 j4, en im y j2 j0, en im y j2 j1, en im y j2 j2, en im y j2 j3, en im y j2 j4, en im y j3 j0, en im y j3 j1, en im y j3 j2, en im y j3 j3, en im y j3 j4, en im y j4 j0, en im y j4 j1, en im y j4 j2, en im y j4 j3, en im y j4 j4] = ac5 (cb b01) (cb b02) (cb b12) (cb b03) (cb b13) (cb b23) (cb b04) (cb b14) (cb b24) (cb b34) (cdL [en im x j0 j0, en im x j0 j1, en im x j0 j2, en im x j0 j3, en im x j0 j4, en im x j1 j0, en im x j1 j1, en im x j1 j2, en im x j1 j3, en im x j1 j4, en im x j2 j0, en im x j2 j1, en im x j2 j2, en im x j2 j3, en im x j2 j4, en im x j3 j0, en im x j3 j1, en im x j3 j2, en im x j3 j3, en im x j3 j4, en im x j4 j0, en im x j4 j1, en im x j4 j2, en im x j4 j3, en im x j4 j4]) 2
      unfold ac5
      simp only [dg9]
      simp only [List.getD_cons_zero, List.getD_cons_succ]
      rw [e2 j0 j0 h0 h0, e2 j0 j1 h0 h1, e2 j0 j2 h0 h2, e2 j0 j3 h0 h3, e2 j0 j4 h0 h4, e2 j1 j0 h1 h0, e2 j1 j1 h1 h1, e2 j1 j2 h1 h2, e2 j1 j3 h1 h3, e2 j1 j4 h1 h4, e2 j2 j0 h2 h0, e2 j2 j1 h2 h1, e2 j2 j2 h2 h2, e2 j2 j3 h2 h3, e2 j2 j4 h2 h4, e2 j3 j0 h3 h0, e2 j3 j1 h3 h1, e2 j3 j2 h3 h2, e2 j3 j3 h3 h3, e2 j3 j4 h3 h4, e2 j4 j0 h4 h0, e2 j4 j1 h4 h1, e2 j4 j2 h4 h2, e2 j4 j3 h4 h3, e2 j4 j4 h4 h4, (wth_ne (s := j2) (q := j0) n02 q02), (wth_ne (s := j2) (q := j1) n12 q12), wth_eq, (wth_ne (s := j2) (q := j3) (Ne.symm n23) p23), (wth_ne (s := j2) (q := j4) (Ne.symm n24) p24)]
    · obtain ⟨y, hy, e⟩ := hc.2.2 x j3 h3 (Or.inl hx)
      refine ⟨y, hy, ?_⟩
      have e2 : ∀ q i, q < r → i < r → en im y q i = (en im x q i + wth bo j3 q * en im x j3 i) % 55441 := fun q i a b => e q i a b
      show cdL [en im y j0 j0, en im y j0 j1, en im y j0 j2, en im y j0 j3, en im y j0 j4, en im y j1 j0, en im y j1 j1, en im y j1 j2, en im y j1 j3, en im y j1 j4, en im y j2 j0, en im y j2 j1, en im y j2 j2, en im y j2 j3, en im y j2 j4, en im y j3 j0, en im y j3 j1, en im y j3 j2, en im y j3 j3, en im y j3 j4, en im y j4 j0, en im y j4 j1, en im y j4 j2, en im y j4 j3, en im y j4 j4] = ac5 (cb b01) (cb b02) (cb b12) (cb b03) (cb b13) (cb b23) (cb b04) (cb b14) (cb b24) (cb b34) (cdL [en im x j0 j0, en im x j0 j1, en im x j0 j2, en im x j0 j3, en im x j0 j4, en im x j1 j0, en im x j1 j1, en im x j1 j2, en im x j1 j3, en im x j1 j4, en im x j2 j0, en im x j2 j1, en im x j2 j2, en im x j2 j3, en im x j2 j4, en im x j3 j0, en im x j3 j1, en im x j3 j2, en im x j3 j3, en im x j3 j4, en im x j4 j0, en im x j4 j1, en im x j4 j2, en im x j4 j3, en im x j4 j4]) 3
      unfold ac5
      simp only [dg9]
      simp only [List.getD_cons_zero, List.getD_cons_succ]
      rw [e2 j0 j0 h0 h0, e2 j0 j1 h0 h1, e2 j0 j2 h0 h2, e2 j0 j3 h0 h3, e2 j0 j4 h0 h4, e2 j1 j0 h1 h0, e2 j1 j1 h1 h1, e2 j1 j2 h1 h2, e2 j1 j3 h1 h3, e2 j1 j4 h1 h4, e2 j2 j0 h2 h0, e2 j2 j1 h2 h1, e2 j2 j2 h2 h2, e2 j2 j3 h2 h3, e2 j2 j4 h2 h4, e2 j3 j0 h3 h0, e2 j3 j1 h3 h1, e2 j3 j2 h3 h2, e2 j3 j3 h3 h3, e2 j3 j4 h3 h4, e2 j4 j0 h4 h0, e2 j4 j1 h4 h1, e2 j4 j2 h4 h2, e2 j4 j3 h4 h3, e2 j4 j4 h4 h4, (wth_ne (s := j3) (q := j0) n03 q03), (wth_ne (s := j3) (q := j1) n13 q13), (wth_ne (s := j3) (q := j2) n23 q23), wth_eq, (wth_ne (s := j3) (q := j4) (Ne.symm n34) p34)]
    · obtain ⟨y, hy, e⟩ := hc.2.2 x j4 h4 (Or.inl hx)
      refine ⟨y, hy, ?_⟩
      have e2 : ∀ q i, q < r → i < r → en im y q i = (en im x q i + wth bo j4 q * en im x j4 i) % 55441 := fun q i a b => e q i a b
      show cdL [en im y j0 j0, en im y j0 j1, en im y j0 j2, en im y j0 j3, en im y j0 j4, en im y j1 j0, en im y j1 j1, en im y j1 j2, en im y j1 j3, en im y j1 j4, en im y j2 j0, en im y j2 j1, en im y j2 j2, en im y j2 j3, en im y j2 j4, en im y j3 j0, en im y j3 j1, en im y j3 j2, en im y j3 j3, en im y j3 j4, en im y j4 j0, en im y j4 j1, en im y j4 j2, en im y j4 j3, en im y j4 j4] = ac5 (cb b01) (cb b02) (cb b12) (cb b03) (cb b13) (cb b23) (cb b04) (cb b14) (cb b24) (cb b34) (cdL [en im x j0 j0, en im x j0 j1, en im x j0 j2, en im x j0 j3, en im x j0 j4, en im x j1 j0, en im x j1 j1, en im x j1 j2, en im x j1 j3, en im x j1 j4, en im x j2 j0, en im x j2 j1, en im x j2 j2, en im x j2 j3, en im x j2 j4, en im x j3 j0, en im x j3 j1, en im x j3 j2, en im x j3 j3, en im x j3 j4, en im x j4 j0, en im x j4 j1, en im x j4 j2, en im x j4 j3, en im x j4 j4]) 4
      unfold ac5
      simp only [dg9]
      simp only [List.getD_cons_zero, List.getD_cons_succ]
      rw [e2 j0 j0 h0 h0, e2 j0 j1 h0 h1, e2 j0 j2 h0 h2, e2 j0 j3 h0 h3, e2 j0 j4 h0 h4, e2 j1 j0 h1 h0, e2 j1 j1 h1 h1, e2 j1 j2 h1 h2, e2 j1 j3 h1 h3, e2 j1 j4 h1 h4, e2 j2 j0 h2 h0, e2 j2 j1 h2 h1, e2 j2 j2 h2 h2, e2 j2 j3 h2 h3, e2 j2 j4 h2 h4, e2 j3 j0 h3 h0, e2 j3 j1 h3 h1, e2 j3 j2 h3 h2, e2 j3 j3 h3 h3, e2 j3 j4 h3 h4, e2 j4 j0 h4 h0, e2 j4 j1 h4 h1, e2 j4 j2 h4 h2, e2 j4 j3 h4 h3, e2 j4 j4 h4 h4, (wth_ne (s := j4) (q := j0) n04 q04), (wth_ne (s := j4) (q := j1) n14 q14), (wth_ne (s := j4) (q := j2) n24 q24), (wth_ne (s := j4) (q := j3) n34 q34), wth_eq]

