def memN (c : Nat) : List Nat → Bool
  | [] => false
  | x :: l => bif Nat.beq x c then true else memN c l
theorem memN_at {c : Nat} : ∀ l : List Nat, memN c l = true → ∃ k, k < l.length ∧ l.getD k 0 = c := by
  intro l
  induction l with
  | nil => intro h; exact absurd h (by simp [memN])
  | cons x l ih =>
    intro h
    unfold memN at h
    cases hx : Nat.beq x c with
    | true => exact ⟨0, by simp, by simpa using beq_eq hx⟩
    | false =>
      rw [hx] at h
      obtain ⟨k, a, b⟩ := ih h
      exact ⟨k + 1, by simpa using a, by simpa using b⟩
def allN (f : Nat → Bool) : List Nat → Bool
  | [] => true
  | x :: l => f x && allN f l
theorem allN_at {f : Nat → Bool} {c : Nat} : ∀ l : List Nat, allN f l = true → memN c l = true → f c = true := by
  intro l
  induction l with
  | nil => intro _ h; exact absurd h (by simp [memN])
  | cons x l ih =>
    intro h1 h
    obtain ⟨a, b⟩ := and2 h1
    unfold memN at h
    cases hx : Nat.beq x c with
    | true => rw [← beq_eq hx]; exact a
    | false => rw [hx] at h; exact ih b h
def allR (f : Nat → Bool) : Bool := allB (fun i => f (i + 2)) 11
theorem allR_at {f : Nat → Bool} (h : allR f = true) {b : Nat} (h1 : 2 ≤ b ∧ b ≤ 12) : f b = true := by
  have := allB_at h (b - 2) (by omega)
  rwa [show b - 2 + 2 = b by omega] at this
def dgx (c k : Nat) : Nat := c / 16 ^ k % 16
abbrev rg (b : Nat) : Prop := 2 ≤ b ∧ b ≤ 12
def L1c : List Nat := [0]
def L2c : List Nat := [2, 3, 4, 5, 6, 7, 8, 9, 10, 11, 12]
def L3c : List Nat := [546, 802, 1058, 1314, 1570, 1826, 2082, 2338, 2594, 2850, 3106, 562, 818, 1074, 578, 834, 594, 610, 626, 642, 658, 674, 690, 706, 547, 803, 1059, 563, 579, 548, 804, 564, 549, 550, 551, 552, 553, 554, 555, 556]
def L4c : List Nat := [2236962, 3285538, 4334114, 5382690, 6431266, 7479842, 2302498, 3351074, 2368034, 2433570, 2499106, 2564642, 2237218, 3285794, 2302754, 2237474, 2237730, 2237986, 2238242, 2241058, 3289634, 2306594, 2241314, 2241570, 2241826, 2245154, 2245410, 2249250, 2249506, 2253346, 2257442, 2236978, 3285554, 2302514, 2368050, 2433586, 2237234, 2241074, 2236994, 2302530, 2237010, 2302546, 2237026, 2237042, 2236963, 3285539, 4334115, 5382691, 2302499, 2237219, 2241059, 2236979, 2236964, 3285540, 2236965, 3285541, 2236966, 2236967]
def L5c : List Nat := [146601550370, 215321027106, 150896517666, 146602598946, 146869985826, 146601615906, 146601550626, 146618327586, 146601554466, 146601550386, 146601550371]
def g3c (a b c : Nat) : Bool := frc (a + 16 * b + 256 * c) (fun z => memN z L3c)
def g4c (a b c d e f : Nat) : Bool := frc (a + 16 * b + 256 * c + 4096 * d + 65536 * e + 1048576 * f) (fun z => memN z L4c)
def g5c (a b c d e f g h i j : Nat) : Bool := frc (a + 16 * b + 256 * c + 4096 * d + 65536 * e + 1048576 * f + 16777216 * g + 268435456 * h + 4294967296 * i + 68719476736 * j) (fun z => memN z L5c)
/-- what the orbits show (reckoned at the end) -/
def T3p : Prop := ∀ a b c, rg a → rg b → rg c → a ≤ b → b ≤ c → g3c a b c = false → ck3 a b c = true
def T4p : Prop := ∀ a b c d e f, rg a → rg b → rg c → rg d → rg e → rg f → g3c a b c = true → g3c a d e = true → g3c b d f = true → g3c c e f = true → g4c a b c d e f = false → ck4 a b c d e f = true
def T5p : Prop := ∀ a b c d e f g h i j, rg a → rg b → rg c → rg d → rg e → rg f → rg g → rg h → rg i → rg j → g4c a b c d e f = true → g3c a g h = true → g3c b g i = true → g3c c h i = true → g3c d g j = true → g3c e h j = true → g3c f i j = true → g4c a b c g h i = true → g4c a d e g h j = true → g4c b d f g i j = true → g4c c e f h i j = true → g5c a b c d e f g h i j = false → ck5 a b c d e f g h i j = true
theorem S3k : allR (fun a => allR fun b => allR fun c => (g3c a b c == g3c b a c) && (g3c a b c == g3c a c b)) = true := by decide +kernel
theorem S3 {a b c : Nat} (ha : rg a) (hb : rg b) (hc : rg c) : g3c a b c = g3c b a c ∧ g3c a b c = g3c a c b := by
  have := and2 (allR_at (allR_at (allR_at S3k ha) hb) hc)
  exact ⟨eq_of_beq this.1, eq_of_beq this.2⟩
theorem B3 (h3 : T3p) {r : Nat} {bo : Nat → Nat} {x y z a b c : Nat} (hx : x < r) (hy : y < r) (hz : z < r) (na : x ≠ y) (nb : x ≠ z) (nc : y ≠ z) (pa : bo (5 * x + y) = a) (qa : bo (5 * y + x) = a) (pb : bo (5 * x + z) = b) (qb : bo (5 * z + x) = b) (pc : bo (5 * y + z) = c) (qc : bo (5 * z + y) = c) (ha : rg a) (hb : rg b) (hc : rg c) (hg : g3c a b c = false) : BAD r bo := by
  have e1 : g3c b a c = false := by rw [← (S3 ha hb hc).1]; exact hg
  have e2 : g3c a c b = false := by rw [← (S3 ha hb hc).2]; exact hg
  have e3 : g3c c a b = false := by rw [← (S3 ha hc hb).1]; exact e2
  have e4 : g3c b c a = false := by rw [← (S3 hb ha hc).2]; exact e1
  have e5 : g3c c b a = false := by rw [← (S3 hc ha hb).2]; exact e3
  have e0 := hg
  by_cases k_e0 : a ≤ b ∧ b ≤ c
  · exact BAD3 hx hy hz na pa qa nb pb qb nc pc qc (h3 _ _ _ ha hb hc k_e0.1 k_e0.2 e0)
  by_cases k_e1 : b ≤ a ∧ a ≤ c
  · exact BAD3 hx hz hy nb pb qb na pa qa (Ne.symm nc) qc pc (h3 _ _ _ hb ha hc k_e1.1 k_e1.2 e1)
  by_cases k_e2 : a ≤ c ∧ c ≤ b
  · exact BAD3 hy hx hz (Ne.symm na) qa pa nc pc qc nb pb qb (h3 _ _ _ ha hc hb k_e2.1 k_e2.2 e2)
  by_cases k_e3 : c ≤ a ∧ a ≤ b
  · exact BAD3 hy hz hx nc pc qc (Ne.symm na) qa pa (Ne.symm nb) qb pb (h3 _ _ _ hc ha hb k_e3.1 k_e3.2 e3)
  by_cases k_e4 : b ≤ c ∧ c ≤ a
  · exact BAD3 hz hx hy (Ne.symm nb) qb pb (Ne.symm nc) qc pc na pa qa (h3 _ _ _ hb hc ha k_e4.1 k_e4.2 e4)
  by_cases k_e5 : c ≤ b ∧ b ≤ a
  · exact BAD3 hz hy hx (Ne.symm nc) qc pc (Ne.symm nb) qb pb (Ne.symm na) qa pa (h3 _ _ _ hc hb ha k_e5.1 k_e5.2 e5)
  exfalso
  omega
/-- a good table, with all that is known of it -/
def GOOD (P : GD) (T : PT) : Prop := GF P T ∧ FZ P ∧ hMv P
def rkL (i : Nat) : Nat := if i < 1 then 1 else if i < 12 then 2 else if i < 52 then 3 else if i < 110 then 4 else 5
def cdc (i : Nat) : Nat := (L1c ++ (L2c ++ (L3c ++ (L4c ++ L5c)))).getD i 0
def ALLG : Prop := ∀ i, i < 121 → ∃ (P : GD) (T : PT), GOOD P T ∧ gR P = rkL i ∧ ∀ a b, a < b → b < gR P → gB P a b = dgx (cdc i) (b * (b - 1) / 2 + a) ∧ gB P b a = dgx (cdc i) (b * (b - 1) / 2 + a)
def CLSg (r : Nat) (bo : Nat → Nat) : Prop := ∃ (P : GD) (T : PT), GOOD P T ∧ gR P = r ∧ ∀ a b, a < r → b < r → a ≠ b → gB P a b = bo (5 * a + b)
theorem CG1 (hA : ALLG) {bo : Nat → Nat} (hg : memN (0) L1c = true) : CLSg 1 bo := by
  obtain ⟨k, k1, k2⟩ := memN_at _ hg
  have k3 : k < 1 := k1
  obtain ⟨P, T, h1, h2, ht⟩ := hA (0 + k) (by omega)
  have er9 : rkL (0 + k) = 1 := by unfold rkL; (repeat' split) <;> omega
  rw [er9] at h2
  have ec : cdc (0 + k) = 0 := by
    exact (beq_eq (allB_at (p := fun k => Nat.beq (cdc (0 + k)) (L1c.getD k 0)) (n := 1) (by decide +kernel) k k3)).trans k2
  rw [h2] at ht

  refine ⟨P, T, h1, h2, fun s t hs htt hne => ?_⟩
  have hs2 : s = 0 := by omega
  have ht2 : t = 0 := by omega
  rcases hs2 with rfl <;> rcases ht2 with rfl <;> first | exact absurd rfl hne | omega

theorem CG2 (hA : ALLG) {bo : Nat → Nat} {a : Nat} (pa : bo (5 * 0 + 1) = a) (qa : bo (5 * 1 + 0) = a) (ha : rg a) (hg : memN (a) L2c = true) : CLSg 2 bo := by
  obtain ⟨k, k1, k2⟩ := memN_at _ hg
  have k3 : k < 11 := k1
  obtain ⟨P, T, h1, h2, ht⟩ := hA (1 + k) (by omega)
  have er9 : rkL (1 + k) = 2 := by unfold rkL; (repeat' split) <;> omega
  rw [er9] at h2
  have ec : cdc (1 + k) = a := by
    exact (beq_eq (allB_at (p := fun k => Nat.beq (cdc (1 + k)) (L2c.getD k 0)) (n := 11) (by decide +kernel) k k3)).trans k2
  rw [h2] at ht
  have fa := ht 0 1 (by omega) (by omega)
  have ga : dgx (cdc (1 + k)) (1 * (1 - 1) / 2 + 0) = a := by
    rw [ec]
    show (a) / 16 ^ 0 % 16 = a
    omega
  rw [ga] at fa
  refine ⟨P, T, h1, h2, fun s t hs htt hne => ?_⟩
  have hs2 : s = 0 ∨ s = 1 := by omega
  have ht2 : t = 0 ∨ t = 1 := by omega
  rcases hs2 with rfl | rfl <;> rcases ht2 with rfl | rfl <;> first | exact fa.1.trans pa.symm | exact fa.2.trans qa.symm | exact absurd rfl hne | omega

theorem CG3 (hA : ALLG) {bo : Nat → Nat} {a b c : Nat} (pa : bo (5 * 0 + 1) = a) (qa : bo (5 * 1 + 0) = a) (ha : rg a) (pb : bo (5 * 0 + 2) = b) (qb : bo (5 * 2 + 0) = b) (hb : rg b) (pc : bo (5 * 1 + 2) = c) (qc : bo (5 * 2 + 1) = c) (hc : rg c) (hg : memN (a + 16 * b + 256 * c) L3c = true) : CLSg 3 bo := by
  obtain ⟨k, k1, k2⟩ := memN_at _ hg
  have k3 : k < 40 := k1
  obtain ⟨P, T, h1, h2, ht⟩ := hA (12 + k) (by omega)
  have er9 : rkL (12 + k) = 3 := by unfold rkL; (repeat' split) <;> omega
  rw [er9] at h2
  have ec : cdc (12 + k) = a + 16 * b + 256 * c := by
    exact (beq_eq (allB_at (p := fun k => Nat.beq (cdc (12 + k)) (L3c.getD k 0)) (n := 40) (by decide +kernel) k k3)).trans k2
  rw [h2] at ht
  have fa := ht 0 1 (by omega) (by omega)
  have ga : dgx (cdc (12 + k)) (1 * (1 - 1) / 2 + 0) = a := by
    rw [ec]
    show (a + 16 * b + 256 * c) / 16 ^ 0 % 16 = a
    omega
  rw [ga] at fa
  have fb := ht 0 2 (by omega) (by omega)
  have gb : dgx (cdc (12 + k)) (2 * (2 - 1) / 2 + 0) = b := by
    rw [ec]
    show (a + 16 * b + 256 * c) / 16 ^ 1 % 16 = b
    omega
  rw [gb] at fb
  have fc := ht 1 2 (by omega) (by omega)
  have gc : dgx (cdc (12 + k)) (2 * (2 - 1) / 2 + 1) = c := by
    rw [ec]
    show (a + 16 * b + 256 * c) / 16 ^ 2 % 16 = c
    omega
  rw [gc] at fc
  refine ⟨P, T, h1, h2, fun s t hs htt hne => ?_⟩
  have hs2 : s = 0 ∨ s = 1 ∨ s = 2 := by omega
  have ht2 : t = 0 ∨ t = 1 ∨ t = 2 := by omega
  rcases hs2 with rfl | rfl | rfl <;> rcases ht2 with rfl | rfl | rfl <;> first | exact fa.1.trans pa.symm | exact fb.1.trans pb.symm | exact fc.1.trans pc.symm | exact fa.2.trans qa.symm | exact fb.2.trans qb.symm | exact fc.2.trans qc.symm | exact absurd rfl hne | omega

theorem CG4 (hA : ALLG) {bo : Nat → Nat} {a b c d e f : Nat} (pa : bo (5 * 0 + 1) = a) (qa : bo (5 * 1 + 0) = a) (ha : rg a) (pb : bo (5 * 0 + 2) = b) (qb : bo (5 * 2 + 0) = b) (hb : rg b) (pc : bo (5 * 1 + 2) = c) (qc : bo (5 * 2 + 1) = c) (hc : rg c) (pd : bo (5 * 0 + 3) = d) (qd : bo (5 * 3 + 0) = d) (hd : rg d) (pe : bo (5 * 1 + 3) = e) (qe : bo (5 * 3 + 1) = e) (he : rg e) (pf : bo (5 * 2 + 3) = f) (qf : bo (5 * 3 + 2) = f) (hf : rg f) (hg : memN (a + 16 * b + 256 * c + 4096 * d + 65536 * e + 1048576 * f) L4c = true) : CLSg 4 bo := by
  obtain ⟨k, k1, k2⟩ := memN_at _ hg
  have k3 : k < 58 := k1
  obtain ⟨P, T, h1, h2, ht⟩ := hA (52 + k) (by omega)
  have er9 : rkL (52 + k) = 4 := by unfold rkL; (repeat' split) <;> omega
  rw [er9] at h2
  have ec : cdc (52 + k) = a + 16 * b + 256 * c + 4096 * d + 65536 * e + 1048576 * f := by
    exact (beq_eq (allB_at (p := fun k => Nat.beq (cdc (52 + k)) (L4c.getD k 0)) (n := 58) (by decide +kernel) k k3)).trans k2
  rw [h2] at ht
  have fa := ht 0 1 (by omega) (by omega)
  have ga : dgx (cdc (52 + k)) (1 * (1 - 1) / 2 + 0) = a := by
    rw [ec]
    show (a + 16 * b + 256 * c + 4096 * d + 65536 * e + 1048576 * f) / 16 ^ 0 % 16 = a
    omega
  rw [ga] at fa
  have fb := ht 0 2 (by omega) (by omega)
  have gb : dgx (cdc (52 + k)) (2 * (2 - 1) / 2 + 0) = b := by
    rw [ec]
    show (a + 16 * b + 256 * c + 4096 * d + 65536 * e + 1048576 * f) / 16 ^ 1 % 16 = b
    omega
  rw [gb] at fb
  have fc := ht 1 2 (by omega) (by omega)
  have gc : dgx (cdc (52 + k)) (2 * (2 - 1) / 2 + 1) = c := by
    rw [ec]
    show (a + 16 * b + 256 * c + 4096 * d + 65536 * e + 1048576 * f) / 16 ^ 2 % 16 = c
    omega
  rw [gc] at fc
  have fd := ht 0 3 (by omega) (by omega)
  have gd : dgx (cdc (52 + k)) (3 * (3 - 1) / 2 + 0) = d := by
    rw [ec]
    show (a + 16 * b + 256 * c + 4096 * d + 65536 * e + 1048576 * f) / 16 ^ 3 % 16 = d
    omega
  rw [gd] at fd
  have fe := ht 1 3 (by omega) (by omega)
  have ge : dgx (cdc (52 + k)) (3 * (3 - 1) / 2 + 1) = e := by
    rw [ec]
    show (a + 16 * b + 256 * c + 4096 * d + 65536 * e + 1048576 * f) / 16 ^ 4 % 16 = e
    omega
  rw [ge] at fe
  have ff := ht 2 3 (by omega) (by omega)
  have gf : dgx (cdc (52 + k)) (3 * (3 - 1) / 2 + 2) = f := by
    rw [ec]
    show (a + 16 * b + 256 * c + 4096 * d + 65536 * e + 1048576 * f) / 16 ^ 5 % 16 = f
    omega
  rw [gf] at ff
  refine ⟨P, T, h1, h2, fun s t hs htt hne => ?_⟩
  have hs2 : s = 0 ∨ s = 1 ∨ s = 2 ∨ s = 3 := by omega
  have ht2 : t = 0 ∨ t = 1 ∨ t = 2 ∨ t = 3 := by omega
  rcases hs2 with rfl | rfl | rfl | rfl <;> rcases ht2 with rfl | rfl | rfl | rfl <;> first | exact fa.1.trans pa.symm | exact fb.1.trans pb.symm | exact fc.1.trans pc.symm | exact fd.1.trans pd.symm | exact fe.1.trans pe.symm | exact ff.1.trans pf.symm | exact fa.2.trans qa.symm | exact fb.2.trans qb.symm | exact fc.2.trans qc.symm | exact fd.2.trans qd.symm | exact fe.2.trans qe.symm | exact ff.2.trans qf.symm | exact absurd rfl hne | omega

theorem CG5 (hA : ALLG) {bo : Nat → Nat} {a b c d e f g h i j : Nat} (pa : bo (5 * 0 + 1) = a) (qa : bo (5 * 1 + 0) = a) (ha : rg a) (pb : bo (5 * 0 + 2) = b) (qb : bo (5 * 2 + 0) = b) (hb : rg b) (pc : bo (5 * 1 + 2) = c) (qc : bo (5 * 2 + 1) = c) (hc : rg c) (pd : bo (5 * 0 + 3) = d) (qd : bo (5 * 3 + 0) = d) (hd : rg d) (pe : bo (5 * 1 + 3) = e) (qe : bo (5 * 3 + 1) = e) (he : rg e) (pf : bo (5 * 2 + 3) = f) (qf : bo (5 * 3 + 2) = f) (hf : rg f) (pg : bo (5 * 0 + 4) = g) (qg : bo (5 * 4 + 0) = g) (hg : rg g) (ph : bo (5 * 1 + 4) = h) (qh : bo (5 * 4 + 1) = h) (hh : rg h) (pi : bo (5 * 2 + 4) = i) (qi : bo (5 * 4 + 2) = i) (hi : rg i) (pj : bo (5 * 3 + 4) = j) (qj : bo (5 * 4 + 3) = j) (hj : rg j) (hg : memN (a + 16 * b + 256 * c + 4096 * d + 65536 * e + 1048576 * f + 16777216 * g + 268435456 * h + 4294967296 * i + 68719476736 * j) L5c = true) : CLSg 5 bo := by
  obtain ⟨k, k1, k2⟩ := memN_at _ hg
  have k3 : k < 11 := k1
  obtain ⟨P, T, h1, h2, ht⟩ := hA (110 + k) (by omega)
  have er9 : rkL (110 + k) = 5 := by unfold rkL; (repeat' split) <;> omega
  rw [er9] at h2
  have ec : cdc (110 + k) = a + 16 * b + 256 * c + 4096 * d + 65536 * e + 1048576 * f + 16777216 * g + 268435456 * h + 4294967296 * i + 68719476736 * j := by
    exact (beq_eq (allB_at (p := fun k => Nat.beq (cdc (110 + k)) (L5c.getD k 0)) (n := 11) (by decide +kernel) k k3)).trans k2
  rw [h2] at ht
  have fa := ht 0 1 (by omega) (by omega)
  have ga : dgx (cdc (110 + k)) (1 * (1 - 1) / 2 + 0) = a := by
    rw [ec]
    show (a + 16 * b + 256 * c + 4096 * d + 65536 * e + 1048576 * f + 16777216 * g + 268435456 * h + 4294967296 * i + 68719476736 * j) / 16 ^ 0 % 16 = a
    omega
  rw [ga] at fa
  have fb := ht 0 2 (by omega) (by omega)
  have gb : dgx (cdc (110 + k)) (2 * (2 - 1) / 2 + 0) = b := by
    rw [ec]
    show (a + 16 * b + 256 * c + 4096 * d + 65536 * e + 1048576 * f + 16777216 * g + 268435456 * h + 4294967296 * i + 68719476736 * j) / 16 ^ 1 % 16 = b
    omega
  rw [gb] at fb
  have fc := ht 1 2 (by omega) (by omega)
  have gc : dgx (cdc (110 + k)) (2 * (2 - 1) / 2 + 1) = c := by
    rw [ec]
    show (a + 16 * b + 256 * c + 4096 * d + 65536 * e + 1048576 * f + 16777216 * g + 268435456 * h + 4294967296 * i + 68719476736 * j) / 16 ^ 2 % 16 = c
    omega
  rw [gc] at fc
  have fd := ht 0 3 (by omega) (by omega)
  have gd : dgx (cdc (110 + k)) (3 * (3 - 1) / 2 + 0) = d := by
    rw [ec]
    show (a + 16 * b + 256 * c + 4096 * d + 65536 * e + 1048576 * f + 16777216 * g + 268435456 * h + 4294967296 * i + 68719476736 * j) / 16 ^ 3 % 16 = d
    omega
  rw [gd] at fd
  have fe := ht 1 3 (by omega) (by omega)
  have ge : dgx (cdc (110 + k)) (3 * (3 - 1) / 2 + 1) = e := by
    rw [ec]
    show (a + 16 * b + 256 * c + 4096 * d + 65536 * e + 1048576 * f + 16777216 * g + 268435456 * h + 4294967296 * i + 68719476736 * j) / 16 ^ 4 % 16 = e
    omega
  rw [ge] at fe
  have ff := ht 2 3 (by omega) (by omega)
  have gf : dgx (cdc (110 + k)) (3 * (3 - 1) / 2 + 2) = f := by
    rw [ec]
    show (a + 16 * b + 256 * c + 4096 * d + 65536 * e + 1048576 * f + 16777216 * g + 268435456 * h + 4294967296 * i + 68719476736 * j) / 16 ^ 5 % 16 = f
    omega
  rw [gf] at ff
  have fg := ht 0 4 (by omega) (by omega)
  have gg : dgx (cdc (110 + k)) (4 * (4 - 1) / 2 + 0) = g := by
    rw [ec]
    show (a + 16 * b + 256 * c + 4096 * d + 65536 * e + 1048576 * f + 16777216 * g + 268435456 * h + 4294967296 * i + 68719476736 * j) / 16 ^ 6 % 16 = g
    omega
  rw [gg] at fg
  have fh := ht 1 4 (by omega) (by omega)
  have gh : dgx (cdc (110 + k)) (4 * (4 - 1) / 2 + 1) = h := by
    rw [ec]
    show (a + 16 * b + 256 * c + 4096 * d + 65536 * e + 1048576 * f + 16777216 * g + 268435456 * h + 4294967296 * i + 68719476736 * j) / 16 ^ 7 % 16 = h
    omega
  rw [gh] at fh
  have fi := ht 2 4 (by omega) (by omega)
  have gi : dgx (cdc (110 + k)) (4 * (4 - 1) / 2 + 2) = i := by
    rw [ec]
    show (a + 16 * b + 256 * c + 4096 * d + 65536 * e + 1048576 * f + 16777216 * g + 268435456 * h + 4294967296 * i + 68719476736 * j) / 16 ^ 8 % 16 = i
    omega
  rw [gi] at fi
  have fj := ht 3 4 (by omega) (by omega)
  have gj : dgx (cdc (110 + k)) (4 * (4 - 1) / 2 + 3) = j := by
    rw [ec]
    show (a + 16 * b + 256 * c + 4096 * d + 65536 * e + 1048576 * f + 16777216 * g + 268435456 * h + 4294967296 * i + 68719476736 * j) / 16 ^ 9 % 16 = j
    omega
  rw [gj] at fj
  refine ⟨P, T, h1, h2, fun s t hs htt hne => ?_⟩
  have hs2 : s = 0 ∨ s = 1 ∨ s = 2 ∨ s = 3 ∨ s = 4 := by omega
  have ht2 : t = 0 ∨ t = 1 ∨ t = 2 ∨ t = 3 ∨ t = 4 := by omega
  rcases hs2 with rfl | rfl | rfl | rfl | rfl <;> rcases ht2 with rfl | rfl | rfl | rfl | rfl <;> first | exact fa.1.trans pa.symm | exact fb.1.trans pb.symm | exact fc.1.trans pc.symm | exact fd.1.trans pd.symm | exact fe.1.trans pe.symm | exact ff.1.trans pf.symm | exact fg.1.trans pg.symm | exact fh.1.trans ph.symm | exact fi.1.trans pi.symm | exact fj.1.trans pj.symm | exact fa.2.trans qa.symm | exact fb.2.trans qb.symm | exact fc.2.trans qc.symm | exact fd.2.trans qd.symm | exact fe.2.trans qe.symm | exact ff.2.trans qf.symm | exact fg.2.trans qg.symm | exact fh.2.trans qh.symm | exact fi.2.trans qi.symm | exact fj.2.trans qj.symm | exact absurd rfl hne | omega

theorem L2_all {a : Nat} (h : rg a) : memN a L2c = true := allR_at (f := fun a => memN a L2c) (by decide +kernel) h
set_option maxHeartbeats 4000000 in
theorem CL3 (hA : ALLG) (h3 : T3p) (h4 : T4p) (h5 : T5p) {bo : Nat → Nat} {a b c : Nat} (pa : bo (5 * 0 + 1) = a) (qa : bo (5 * 1 + 0) = a) (ha : rg a) (pb : bo (5 * 0 + 2) = b) (qb : bo (5 * 2 + 0) = b) (hb : rg b) (pc : bo (5 * 1 + 2) = c) (qc : bo (5 * 2 + 1) = c) (hc : rg c) : CLSg 3 bo ∨ BAD 3 bo := by
  cases t012 : g3c a b c with
  | false => exact Or.inr (B3 h3 (x := 0) (y := 1) (z := 2) (by omega) (by omega) (by omega) (by decide) (by decide) (by decide) pa qa pb qb pc qc ha hb hc t012)
  | true =>
  exact Or.inl (CG3 hA pa qa ha pb qb hb pc qc hc (by rw [g3c, frc_eq] at t012; exact t012))

set_option maxHeartbeats 4000000 in
theorem CL4 (hA : ALLG) (h3 : T3p) (h4 : T4p) (h5 : T5p) {bo : Nat → Nat} {a b c d e f : Nat} (pa : bo (5 * 0 + 1) = a) (qa : bo (5 * 1 + 0) = a) (ha : rg a) (pb : bo (5 * 0 + 2) = b) (qb : bo (5 * 2 + 0) = b) (hb : rg b) (pc : bo (5 * 1 + 2) = c) (qc : bo (5 * 2 + 1) = c) (hc : rg c) (pd : bo (5 * 0 + 3) = d) (qd : bo (5 * 3 + 0) = d) (hd : rg d) (pe : bo (5 * 1 + 3) = e) (qe : bo (5 * 3 + 1) = e) (he : rg e) (pf : bo (5 * 2 + 3) = f) (qf : bo (5 * 3 + 2) = f) (hf : rg f) : CLSg 4 bo ∨ BAD 4 bo := by
  cases t012 : g3c a b c with
  | false => exact Or.inr (B3 h3 (x := 0) (y := 1) (z := 2) (by omega) (by omega) (by omega) (by decide) (by decide) (by decide) pa qa pb qb pc qc ha hb hc t012)
  | true =>
  cases t013 : g3c a d e with
  | false => exact Or.inr (B3 h3 (x := 0) (y := 1) (z := 3) (by omega) (by omega) (by omega) (by decide) (by decide) (by decide) pa qa pd qd pe qe ha hd he t013)
  | true =>
  cases t023 : g3c b d f with
  | false => exact Or.inr (B3 h3 (x := 0) (y := 2) (z := 3) (by omega) (by omega) (by omega) (by decide) (by decide) (by decide) pb qb pd qd pf qf hb hd hf t023)
  | true =>
  cases t123 : g3c c e f with
  | false => exact Or.inr (B3 h3 (x := 1) (y := 2) (z := 3) (by omega) (by omega) (by omega) (by decide) (by decide) (by decide) pc qc pe qe pf qf hc he hf t123)
  | true =>
  cases u0123 : g4c a b c d e f with
  | false => exact Or.inr (BAD4 (j0 := 0) (j1 := 1) (j2 := 2) (j3 := 3) (by omega) (by omega) (by omega) (by omega) (by decide) pa qa (by decide) pb qb (by decide) pc qc (by decide) pd qd (by decide) pe qe (by decide) pf qf (h4 _ _ _ _ _ _ ha hb hc hd he hf t012 t013 t023 t123 u0123))
  | true =>
  exact Or.inl (CG4 hA pa qa ha pb qb hb pc qc hc pd qd hd pe qe he pf qf hf (by rw [g4c, frc_eq] at u0123; exact u0123))

set_option maxHeartbeats 4000000 in
theorem CL5 (hA : ALLG) (h3 : T3p) (h4 : T4p) (h5 : T5p) {bo : Nat → Nat} {a b c d e f g h i j : Nat} (pa : bo (5 * 0 + 1) = a) (qa : bo (5 * 1 + 0) = a) (ha : rg a) (pb : bo (5 * 0 + 2) = b) (qb : bo (5 * 2 + 0) = b) (hb : rg b) (pc : bo (5 * 1 + 2) = c) (qc : bo (5 * 2 + 1) = c) (hc : rg c) (pd : bo (5 * 0 + 3) = d) (qd : bo (5 * 3 + 0) = d) (hd : rg d) (pe : bo (5 * 1 + 3) = e) (qe : bo (5 * 3 + 1) = e) (he : rg e) (pf : bo (5 * 2 + 3) = f) (qf : bo (5 * 3 + 2) = f) (hf : rg f) (pg : bo (5 * 0 + 4) = g) (qg : bo (5 * 4 + 0) = g) (hg : rg g) (ph : bo (5 * 1 + 4) = h) (qh : bo (5 * 4 + 1) = h) (hh : rg h) (pi : bo (5 * 2 + 4) = i) (qi : bo (5 * 4 + 2) = i) (hi : rg i) (pj : bo (5 * 3 + 4) = j) (qj : bo (5 * 4 + 3) = j) (hj : rg j) : CLSg 5 bo ∨ BAD 5 bo := by
  cases t012 : g3c a b c with
  | false => exact Or.inr (B3 h3 (x := 0) (y := 1) (z := 2) (by omega) (by omega) (by omega) (by decide) (by decide) (by decide) pa qa pb qb pc qc ha hb hc t012)
  | true =>
  cases t013 : g3c a d e with
  | false => exact Or.inr (B3 h3 (x := 0) (y := 1) (z := 3) (by omega) (by omega) (by omega) (by decide) (by decide) (by decide) pa qa pd qd pe qe ha hd he t013)
  | true =>
  cases t014 : g3c a g h with
  | false => exact Or.inr (B3 h3 (x := 0) (y := 1) (z := 4) (by omega) (by omega) (by omega) (by decide) (by decide) (by decide) pa qa pg qg ph qh ha hg hh t014)
  | true =>
  cases t023 : g3c b d f with
  | false => exact Or.inr (B3 h3 (x := 0) (y := 2) (z := 3) (by omega) (by omega) (by omega) (by decide) (by decide) (by decide) pb qb pd qd pf qf hb hd hf t023)
  | true =>
  cases t024 : g3c b g i with
  | false => exact Or.inr (B3 h3 (x := 0) (y := 2) (z := 4) (by omega) (by omega) (by omega) (by decide) (by decide) (by decide) pb qb pg qg pi qi hb hg hi t024)
  | true =>
  cases t034 : g3c d g j with
  | false => exact Or.inr (B3 h3 (x := 0) (y := 3) (z := 4) (by omega) (by omega) (by omega) (by decide) (by decide) (by decide) pd qd pg qg pj qj hd hg hj t034)
  | true =>
  cases t123 : g3c c e f with
  | false => exact Or.inr (B3 h3 (x := 1) (y := 2) (z := 3) (by omega) (by omega) (by omega) (by decide) (by decide) (by decide) pc qc pe qe pf qf hc he hf t123)
  | true =>
  cases t124 : g3c c h i with
  | false => exact Or.inr (B3 h3 (x := 1) (y := 2) (z := 4) (by omega) (by omega) (by omega) (by decide) (by decide) (by decide) pc qc ph qh pi qi hc hh hi t124)
  | true =>
  cases t134 : g3c e h j with
  | false => exact Or.inr (B3 h3 (x := 1) (y := 3) (z := 4) (by omega) (by omega) (by omega) (by decide) (by decide) (by decide) pe qe ph qh pj qj he hh hj t134)
  | true =>
  cases t234 : g3c f i j with
  | false => exact Or.inr (B3 h3 (x := 2) (y := 3) (z := 4) (by omega) (by omega) (by omega) (by decide) (by decide) (by decide) pf qf pi qi pj qj hf hi hj t234)
  | true =>
  cases u0123 : g4c a b c d e f with
  | false => exact Or.inr (BAD4 (j0 := 0) (j1 := 1) (j2 := 2) (j3 := 3) (by omega) (by omega) (by omega) (by omega) (by decide) pa qa (by decide) pb qb (by decide) pc qc (by decide) pd qd (by decide) pe qe (by decide) pf qf (h4 _ _ _ _ _ _ ha hb hc hd he hf t012 t013 t023 t123 u0123))
  | true =>
  cases u0124 : g4c a b c g h i with
  | false => exact Or.inr (BAD4 (j0 := 0) (j1 := 1) (j2 := 2) (j3 := 4) (by omega) (by omega) (by omega) (by omega) (by decide) pa qa (by decide) pb qb (by decide) pc qc (by decide) pg qg (by decide) ph qh (by decide) pi qi (h4 _ _ _ _ _ _ ha hb hc hg hh hi t012 t014 t024 t124 u0124))
  | true =>
  cases u0134 : g4c a d e g h j with
  | false => exact Or.inr (BAD4 (j0 := 0) (j1 := 1) (j2 := 3) (j3 := 4) (by omega) (by omega) (by omega) (by omega) (by decide) pa qa (by decide) pd qd (by decide) pe qe (by decide) pg qg (by decide) ph qh (by decide) pj qj (h4 _ _ _ _ _ _ ha hd he hg hh hj t013 t014 t034 t134 u0134))
  | true =>
  cases u0234 : g4c b d f g i j with
  | false => exact Or.inr (BAD4 (j0 := 0) (j1 := 2) (j2 := 3) (j3 := 4) (by omega) (by omega) (by omega) (by omega) (by decide) pb qb (by decide) pd qd (by decide) pf qf (by decide) pg qg (by decide) pi qi (by decide) pj qj (h4 _ _ _ _ _ _ hb hd hf hg hi hj t023 t024 t034 t234 u0234))
  | true =>
  cases u1234 : g4c c e f h i j with
  | false => exact Or.inr (BAD4 (j0 := 1) (j1 := 2) (j2 := 3) (j3 := 4) (by omega) (by omega) (by omega) (by omega) (by decide) pc qc (by decide) pe qe (by decide) pf qf (by decide) ph qh (by decide) pi qi (by decide) pj qj (h4 _ _ _ _ _ _ hc he hf hh hi hj t123 t124 t134 t234 u1234))
  | true =>
  cases w5 : g5c a b c d e f g h i j with
  | false => exact Or.inr (BAD5 (j0 := 0) (j1 := 1) (j2 := 2) (j3 := 3) (j4 := 4) (by omega) (by omega) (by omega) (by omega) (by omega) (by decide) pa qa (by decide) pb qb (by decide) pc qc (by decide) pd qd (by decide) pe qe (by decide) pf qf (by decide) pg qg (by decide) ph qh (by decide) pi qi (by decide) pj qj (h5 _ _ _ _ _ _ _ _ _ _ ha hb hc hd he hf hg hh hi hj u0123 t014 t024 t124 t034 t134 t234 u0124 u0134 u0234 u1234 w5))
  | true =>
  exact Or.inl (CG5 hA pa qa ha pb qb hb pc qc hc pd qd hd pe qe he pf qf hf pg qg hg ph qh hh pi qi hi pj qj hj (by rw [g5c, frc_eq] at w5; exact w5))

theorem CLS (hA : ALLG) (h3 : T3p) (h4 : T4p) (h5 : T5p) {r : Nat} {bo : Nat → Nat} (hr : 1 ≤ r ∧ r ≤ 5) (hb : ∀ a b, a < r → b < r → a ≠ b → rg (bo (5 * a + b)) ∧ bo (5 * b + a) = bo (5 * a + b)) : CLSg r bo ∨ BAD r bo := by
  have k : ∀ a b, a < r → b < r → a ≠ b → _ := hb
  obtain rfl | rfl | rfl | rfl | rfl : r = 1 ∨ r = 2 ∨ r = 3 ∨ r = 4 ∨ r = 5 := by omega
  · exact Or.inl (CG1 hA rfl)
  · have a1 := hb 0 1 (by omega) (by omega) (by decide)
    exact Or.inl (CG2 hA rfl a1.2 a1.1 (L2_all a1.1))
  · have aa := hb 0 1 (by omega) (by omega) (by decide)
    have ab := hb 0 2 (by omega) (by omega) (by decide)
    have ac := hb 1 2 (by omega) (by omega) (by decide)
    exact CL3 hA h3 h4 h5 rfl aa.2 aa.1 rfl ab.2 ab.1 rfl ac.2 ac.1
  · have aa := hb 0 1 (by omega) (by omega) (by decide)
    have ab := hb 0 2 (by omega) (by omega) (by decide)
    have ac := hb 1 2 (by omega) (by omega) (by decide)
    have ad := hb 0 3 (by omega) (by omega) (by decide)
    have ae := hb 1 3 (by omega) (by omega) (by decide)
    have af := hb 2 3 (by omega) (by omega) (by decide)
    exact CL4 hA h3 h4 h5 rfl aa.2 aa.1 rfl ab.2 ab.1 rfl ac.2 ac.1 rfl ad.2 ad.1 rfl ae.2 ae.1 rfl af.2 af.1
  · have aa := hb 0 1 (by omega) (by omega) (by decide)
    have ab := hb 0 2 (by omega) (by omega) (by decide)
    have ac := hb 1 2 (by omega) (by omega) (by decide)
    have ad := hb 0 3 (by omega) (by omega) (by decide)
    have ae := hb 1 3 (by omega) (by omega) (by decide)
    have af := hb 2 3 (by omega) (by omega) (by decide)
    have ag := hb 0 4 (by omega) (by omega) (by decide)
    have ah := hb 1 4 (by omega) (by omega) (by decide)
    have ai := hb 2 4 (by omega) (by omega) (by decide)
    have aj := hb 3 4 (by omega) (by omega) (by decide)
    exact CL5 hA h3 h4 h5 rfl aa.2 aa.1 rfl ab.2 ab.1 rfl ac.2 ac.1 rfl ad.2 ad.1 rfl ae.2 ae.1 rfl af.2 af.1 rfl ag.2 ag.1 rfl ah.2 ah.1 rfl ai.2 ai.1 rfl aj.2 aj.1

