theorem srF_at {l h : Nat} (hd : l + 16 ≤ h ∨ h + 16 ≤ l) : ∀ n, n ≤ 16 → ∀ (f : Nat → Int) q, srF l h f n q = if l ≤ q ∧ q < l + n then (if q = l then 0 else f (q - 1) + f (h + (q - l) - 1)) - f q else if h ≤ q ∧ q < h + n then f (l + (q - h)) else f q := by
  intro n
  induction n with
  | zero => intro _ f q; rw [srF, if_neg (by omega), if_neg (by omega)]
  | succ n ih =>
    intro hn f q
    rw [srF, ih (by omega)]
    by_cases h1 : l ≤ q ∧ q < l + n
    · rw [if_pos h1, if_pos (show l ≤ q ∧ q < l + (n + 1) by omega)]
      rw [u1_ne (show q ≠ h + n by omega), u1_ne (show q ≠ l + n by omega)]
      split
      · rfl
      · rw [u1_ne (show q - 1 ≠ h + n by omega), u1_ne (show q - 1 ≠ l + n by omega), u1_ne (show h + (q - l) - 1 ≠ h + n by omega), u1_ne (show h + (q - l) - 1 ≠ l + n by omega)]
    · rw [if_neg h1]
      by_cases h2 : h ≤ q ∧ q < h + n
      · rw [if_pos h2, if_neg (show ¬ (l ≤ q ∧ q < l + (n + 1)) by omega), if_pos (show h ≤ q ∧ q < h + (n + 1) by omega)]
        rw [u1_ne (show l + (q - h) ≠ h + n by omega), u1_ne (show l + (q - h) ≠ l + n by omega)]
      · rw [if_neg h2]
        by_cases e2 : q = h + n
        · subst e2
          rw [u1_eq, if_neg (show ¬ (l ≤ h + n ∧ h + n < l + (n + 1)) by omega), if_pos (show h ≤ h + n ∧ h + n < h + (n + 1) by omega)]
          congr 1; omega
        · rw [u1_ne e2]
          by_cases e1 : q = l + n
          · subst e1
            rw [u1_eq, if_pos (show l ≤ l + n ∧ l + n < l + (n + 1) by omega)]
            by_cases e0 : n = 0
            · subst e0; simp
            · rw [if_neg e0, if_neg (show ¬ l + n = l by omega), show l + n - l = n by omega]
          · rw [u1_ne e1, if_neg (show ¬ (l ≤ q ∧ q < l + (n + 1)) by omega), if_neg (show ¬ (h ≤ q ∧ q < h + (n + 1)) by omega)]
def rkS (P : GD) (s : Nat) (A : Nat → Nat → Int) : Nat → Nat → Int := fun x k => if (gE P x).testBit s then A (gS P x s) k else (if k = 0 then 0 else A x (k - 1) + A (gS P x s) (k - 1)) - A x k
def rkA (P : GD) (w : Nat) : Nat → Nat → Nat → Int
  | 0 => fun x k => if x = 0 ∧ k = 0 then 1 else 0
  | i + 1 => rkS P (gLet P w i) (rkA P w i)
theorem rkA_deg {P : GD} {w : Nat} : ∀ i x k, i < k → rkA P w i x k = 0 := by
  intro i
  induction i with
  | zero => intro x k hk; rw [rkA]; show (if _ then _ else _) = (_ : Int); rw [if_neg (by omega)]
  | succ i ih =>
    intro x k hk
    rw [rkA, rkS]
    split
    · exact ih _ _ (by omega)
    · rw [if_neg (by omega), ih _ _ (by omega), ih _ _ (by omega), ih _ _ (by omega)]; rfl
theorem exX_rk {P : GD} (hC : GC P) (hV : GV P) (hs : hSi P) {s t : Nat} (hsR : s < gR P) (ht : t ≤ 14) {f : Nat → Int} {A : Nat → Nat → Int} (hA : ∀ q k, q < gN P → k < 16 → f (q * 16 + k) = A q k) (hdeg : ∀ q k, t ≤ k → A q k = 0) : ∀ x, x ≤ gN P → ∀ q k, q < gN P → k < 16 → exX srF P s t f x (q * 16 + k) = if low P s q < x then rkS P s A q k else A q k := by
  have h60 := GV_N hV
  intro x
  induction x with
  | zero => intro _ q k hq hk; rw [exX, if_neg (by omega)]; exact hA q k hq hk
  | succ x ih =>
    intro hx q k hq hk
    have ihx := ih (by omega)
    have hS := hV.2.2.2.1 x s (by omega) hsR
    have ad := asc_desc hC hV hs (show x < gN P by omega) hsR
    rw [exX]
    by_cases hb : (gE P x).testBit s = true
    · rw [if_pos hb, ihx q k hq hk]
      have : low P s q ≠ x := by
        intro e
        rw [low] at e
        by_cases hq2 : (gE P q).testBit s = true
        · rw [if_pos hq2] at e
          have ad2 := asc_desc hC hV hs hq hsR
          rw [e, hb, hq2] at ad2
          exact absurd ad2 (by decide)
        · rw [if_neg hq2] at e; rw [e] at hq2; exact hq2 hb
      by_cases h1 : low P s q < x
      · rw [if_pos h1, if_pos (by omega)]
      · rw [if_neg h1, if_neg (by omega)]
    · have hb' : (gE P x).testBit s = false := by simpa using hb
      rw [hb'] at ad
      replace ad : (gE P (gS P x s)).testBit s = true := ad
      have hne : x ≠ gS P x s := fun e => by rw [← e, hb'] at ad; exact absurd ad (by decide)
      have lx : low P s x = x := by rw [low, if_neg hb]
      have ly : low P s (gS P x s) = x := by rw [low, if_pos ad, hs x s (by omega) hsR]
      have hmin : min t 15 + 1 = t + 1 := by omega
      rw [if_neg hb, srF_at (by omega) _ (by omega), hmin]
      by_cases e1 : q = x
      · subst e1
        rw [if_pos (show low P s q < q + 1 by omega)]
        have hk1 : rkS P s A q k = (if k = 0 then 0 else A q (k - 1) + A (gS P q s) (k - 1)) - A q k := by rw [rkS, if_neg hb]
        rw [hk1]
        by_cases h1 : k < t + 1
        · rw [if_pos (by omega), ihx q k hq hk, lx, if_neg (Nat.lt_irrefl _)]
          by_cases e0 : k = 0
          · rw [if_pos (by omega), if_pos e0]
          · rw [if_neg (by omega), if_neg e0, show q * 16 + k - 1 = q * 16 + (k - 1) by omega, ihx q (k - 1) hq (by omega), lx, if_neg (Nat.lt_irrefl _), show gS P q s * 16 + (q * 16 + k - q * 16) - 1 = gS P q s * 16 + (k - 1) by omega, ihx _ _ hS (by omega), ly, if_neg (Nat.lt_irrefl _)]
        · rw [if_neg (by omega), if_neg (by omega), ihx q k hq hk, lx, if_neg (Nat.lt_irrefl _), if_neg (by omega), hdeg q k (by omega), hdeg _ _ (by omega), hdeg _ _ (by omega)]; rfl
      · by_cases e2 : q = gS P x s
        · rw [e2, ly, if_pos (show x < x + 1 by omega)]
          have hk1 : rkS P s A (gS P x s) k = A x k := by rw [rkS, if_pos ad, hs x s (by omega) hsR]
          rw [hk1, if_neg (by omega)]
          by_cases h1 : k < t + 1
          · rw [if_pos (by omega), show x * 16 + (gS P x s * 16 + k - gS P x s * 16) = x * 16 + k by omega, ihx x k (by omega) hk, lx, if_neg (Nat.lt_irrefl _)]
          · rw [if_neg (by omega), ihx _ k hS hk, ly, if_neg (Nat.lt_irrefl _), hdeg x k (by omega), hdeg _ k (by omega)]
        · rw [if_neg (by omega), if_neg (by omega), ihx q k hq hk]
          have : low P s q ≠ x := by
            intro e
            rw [low] at e
            by_cases hq2 : (gE P q).testBit s = true
            · rw [if_pos hq2] at e
              exact e2 (by rw [← e, hs q s hq hsR])
            · rw [if_neg hq2] at e; exact e1 e
          by_cases h1 : low P s q < x
          · rw [if_pos h1, if_pos (by omega)]
          · rw [if_neg h1, if_neg (by omega)]
theorem exF_rk {P : GD} (hC : GC P) (hV : GV P) (hs : hSi P) {w : Nat} (hw : w < gN P) : ∀ i, i ≤ 13 → ∀ q k, q < gN P → k < 16 → exF srF P w (st0 0) i (q * 16 + k) = rkA P w i q k := by
  intro i
  induction i with
  | zero =>
    intro _ q k hq hk
    rw [exF, rkA, st0]
    show (if _ then _ else _) = (if _ then _ else _)
    by_cases e : q = 0 ∧ k = 0
    · rw [if_pos (by omega), if_pos e]
    · rw [if_neg (by omega), if_neg e]
  | succ i ih =>
    intro hi q k hq hk
    rw [exF, exX_rk hC hV hs (gLet_lt hV hw) (by omega) (ih (by omega)) (fun q k h => rkA_deg i q k (by omega)) (gN P) (Nat.le_refl _) q k hq hk, if_pos (low_lt hV (gLet_lt hV hw) hq), rkA]
theorem gUp_S (P : GD) (x : Nat) : ∀ n, gUp P x (n + 1) = gUp P (gH P x) n := by
  intro n
  induction n with
  | zero => rfl
  | succ n ih => rw [gUp, ih]; rfl
theorem rkA_pre {P : GD} (hC : GC P) {w : Nat} (hw : w < gN P) (h0 : 0 < w) : ∀ i, i ≤ gL P (gH P w) → rkA P w i = rkA P (gH P w) i := by
  have hL := (hC.2.1.2 w h0 hw).1
  intro i
  induction i with
  | zero => intro _; rfl
  | succ i ih =>
    intro hi
    rw [rkA, rkA, ih (by omega)]
    have : gLet P w i = gLet P (gH P w) i := by
      rw [gLet, gLet, show gL P w - 1 - i = (gL P (gH P w) - 1 - i) + 1 by omega, gUp_S]
    rw [this]
theorem rk_rec {P : GD} (hC : GC P) {w : Nat} (hw : w < gN P) (h0 : 0 < w) : rkA P w (gL P w) = rkS P (gA P w) (rkA P (gH P w) (gL P (gH P w))) := by
  have hL := (hC.2.1.2 w h0 hw).1
  rw [← hL, rkA, rkA_pre hC hw h0 _ (Nat.le_refl _)]
  have : gLet P w (gL P (gH P w)) = gA P w := by rw [gLet, show gL P w - 1 - gL P (gH P w) = 0 by omega]; rfl
  rw [this]
theorem rF_rk {P : GD} (hC : GC P) (hV : GV P) (hs : hSi P) {x w k : Nat} (hx : x < gN P) (hw : w < gN P) (hk : k < 16) : rF P x w k = rkA P w (gL P w) x k := by
  rw [rF, if_pos hk, exF_rk hC hV hs hw _ (hV.2.2.1 w hw).1 x k hx hk]
-- tables of R: packed, lanes of 8 bits, each 64 more
def pl (r k : Nat) : Nat := (r >>> (8 * k)) % 256
def pz (c x : Nat) : Nat := (c >>> (112 * x)) % 2 ^ 112
def RTv (l : List Nat) (N v w k : Nat) : Int := ((pl (pz (l.getD (N - 1 - w) 0) v) k : Nat) : Int) - 64
/-- r is what pa (of x) and pb (of x s) make, by a letter that makes x longer -/
def kAs (r pa pb : Nat) : Bool := allB (fun k => Nat.beq (pl r k + pl pa k) (if Nat.beq k 0 then 128 else pl pa (k - 1) + pl pb (k - 1))) 14
def kSt (P : GD) (s c h x : Nat) : Bool := frc (pz c x) (fun r => frc (pz h (gS P x s)) (fun b => if (gE P x).testBit s then Nat.beq r b else frc (pz h x) (fun a => kAs r a b)))
def zro : Nat := 0x4040404040404040404040404040
def kRw (P : GD) (l : List Nat) (w : Nat) : Bool :=
  frc (l.getD (gN P - 1 - w) 0) (fun c =>
    if Nat.beq w 0 then allB (fun x => Nat.beq (pz c x) (if Nat.beq x 0 then zro + 1 else zro)) (gN P)
    else frc (l.getD (gN P - 1 - gH P w) 0) (fun h => frc (gA P w) (fun s => frc (lsb (gE P w)) (fun s2 => frc (l.getD (gN P - 1 - gS P w s2) 0) (fun h2 =>
      allB (fun x => kSt P s c h x && (if Nat.beq x w then Nat.beq (pz c x) (zro + 1) else if (gD P w).testBit x then kSt P s2 c h2 x else Nat.beq (pz c x) zro)) (gN P))))))
def kRl (P : GD) (l : List Nat) : Bool := allB (fun w => kRw P l w) (gN P)
theorem zro_l : ∀ k, k < 14 → pl zro k = 64 ∧ pl (zro + 1) k = if k = 0 then 65 else 64 := by decide
theorem kSt_ok {P : GD} {s c h x : Nat} (q : kSt P s c h x = true) : ∀ k, k < 14 → (((pl (pz c x) k : Nat) : Int) - 64) = rkS P s (fun x k => ((pl (pz h x) k : Nat) : Int) - 64) x k := by
  intro k hk
  rw [kSt, frc_eq, frc_eq] at q
  rw [rkS]
  by_cases hb : (gE P x).testBit s = true
  · rw [if_pos hb] at q ⊢
    rw [beq_eq q]
  · rw [if_neg hb] at q ⊢
    rw [frc_eq, kAs] at q
    have e := beq_eq (allB_at q k hk)
    by_cases h0 : k = 0
    · subst h0
      rw [if_pos (by rfl)] at e
      rw [if_pos rfl]
      omega
    · have : ¬ Nat.beq k 0 = true := fun z => h0 (beq_eq z)
      rw [if_neg this] at e
      rw [if_neg h0]
      omega
theorem kRl_ok {P : GD} (hC : GC P) (hV : GV P) (hs : hSi P) (hB : hBr P) {l : List Nat} (h : kRl P l = true) : (∀ v w k, v < gN P → w < gN P → k < 14 → rF P v w k = RTv l (gN P) v w k) ∧ hRr P := by
  have q : ∀ w, w < gN P → _ := fun w hw => allB_at h w hw
  have base : ∀ x k, x < gN P → k < 14 → 0 < gN P → RTv l (gN P) x 0 k = if x = 0 ∧ k = 0 then 1 else 0 := by
    intro x k hx hk hN
    have e := q 0 hN
    rw [kRw, frc_eq, if_pos (by rfl)] at e
    have e2 := beq_eq (allB_at e x hx)
    rw [RTv, e2]
    by_cases h0 : x = 0
    · rw [if_pos (by rw [h0]; rfl), (zro_l k hk).2]
      by_cases hk0 : k = 0
      · rw [if_pos hk0, if_pos ⟨h0, hk0⟩]; rfl
      · rw [if_neg hk0, if_neg (fun z => hk0 z.2)]; rfl
    · have : ¬ Nat.beq x 0 = true := fun z => h0 (beq_eq z)
      rw [if_neg this, (zro_l k hk).1, if_neg (fun z => h0 z.1)]; rfl
  have step : ∀ w, 0 < w → w < gN P → ∀ x, x < gN P → (kSt P (gA P w) (l.getD (gN P - 1 - w) 0) (l.getD (gN P - 1 - gH P w) 0) x = true ∧ (if Nat.beq x w then Nat.beq (pz (l.getD (gN P - 1 - w) 0) x) (zro + 1) else if (gD P w).testBit x then kSt P (lsb (gE P w)) (l.getD (gN P - 1 - w) 0) (l.getD (gN P - 1 - gS P w (lsb (gE P w))) 0) x else Nat.beq (pz (l.getD (gN P - 1 - w) 0) x) zro) = true) := by
    intro w h0 hw x hx
    have e := q w hw
    have : ¬ Nat.beq w 0 = true := fun z => by have := beq_eq z; omega
    rw [kRw, frc_eq, if_neg this, frc_eq, frc_eq, frc_eq, frc_eq] at e
    exact and2 (allB_at e x hx)
  have main : ∀ n w, w < n → w < gN P → ∀ x k, x < gN P → k < 14 → rkA P w (gL P w) x k = RTv l (gN P) x w k := by
    intro n
    induction n with
    | zero => intro w h; omega
    | succ n ih =>
      intro w hn hw x k hx hk
      by_cases h0 : w = 0
      · subst h0
        rw [hC.2.1.1, base x k hx hk (by omega)]; rfl
      · have hH := hC.2.1.2 w (by omega) hw
        have i1 := ih (gH P w) (by omega) (by omega)
        rw [rk_rec hC hw (by omega)]
        have e := kSt_ok (step w (by omega) hw x hx).1 k hk
        have hA := (hV.2.2.1 w hw).2.2.1
        have hS := hV.2.2.2.1 x _ hx hA
        rw [RTv, e, rkS, rkS]
        split
        · exact i1 _ _ hS hk
        · rw [i1 x k hx hk]
          by_cases hk0 : k = 0
          · rw [if_pos hk0, if_pos hk0]; rfl
          · rw [if_neg hk0, if_neg hk0, i1 x (k - 1) hx (by omega), i1 _ (k - 1) hS (by omega)]; rfl
  have rt : ∀ v w k, v < gN P → w < gN P → k < 14 → rF P v w k = RTv l (gN P) v w k := fun v w k hv hw hk => by
    rw [rF_rk hC hV hs hv hw (by omega)]
    exact main (w + 1) w (by omega) hw v k hv hk
  refine ⟨rt, fun v w hv hw => ⟨fun k h1 h2 => ?_, fun k hk e => ?_, fun k hk e hb => ?_, fun k hk e hb => ?_⟩⟩
  · rw [rF_rk hC hV hs hv hw h2]
    exact rkA_deg _ _ _ (by have := (hV.2.2.1 w hw).1; omega)
  · subst e
    rw [rt v v k hv hv hk]
    by_cases h0 : v = 0
    · subst h0
      rw [base 0 k hv hk hv]
      by_cases hk0 : k = 0
      · rw [if_pos ⟨rfl, hk0⟩, if_pos hk0]
      · rw [if_neg (fun z => hk0 z.2), if_neg hk0]
    · have e2 := (step v (by omega) hv v hv).2
      rw [if_pos (Nat.beq_refl v)] at e2
      rw [RTv, beq_eq e2, (zro_l k hk).2]
      split <;> rfl
  · have h0 : 0 < w ∨ w = 0 := by omega
    rcases h0 with h0 | h0
    · have e2 := (step w h0 hw v hv).2
      have : ¬ Nat.beq v w = true := fun z => e (beq_eq z)
      rw [if_neg this, if_neg (by rw [hb]; decide)] at e2
      rw [rt v w k hv hw hk, RTv, beq_eq e2, (zro_l k hk).1]; rfl
    · subst h0
      rw [rt v 0 k hv hw hk, base v k hv hk hw, if_neg (fun z => e z.1)]
  · have h0 : 0 < w := by
      rcases Nat.eq_zero_or_pos w with z | z
      · rw [z, hB.2.2.1 v hv] at hb
        have := of_decide_eq_true hb
        omega
      · exact z
    have e2 := (step w h0 hw v hv).2
    have : ¬ Nat.beq v w = true := fun z => e (beq_eq z)
    rw [if_neg this, if_pos hb] at e2
    obtain ⟨s1, s2, s3, s4⟩ := sb_ok hV hC hB hw h0
    have hS := hV.2.2.2.1 v _ hv s1
    have hW := hV.2.2.2.1 w _ hw s1
    have e3 := kSt_ok e2 k hk
    rw [rt v w k hv hw hk, RTv, e3, rkS]
    split
    · rw [rt _ _ k hS hW hk]; rfl
    · rw [rt v _ k hv hW hk]
      by_cases hk0 : k = 0
      · rw [if_pos hk0, if_pos hk0]; rfl
      · rw [if_neg hk0, if_neg hk0, rt _ _ (k - 1) hS hW (by omega), rt v _ (k - 1) hv hW (by omega), RTv, RTv]
        show _ = (_ + _) - _
        rw [Int.add_comm (((pl (pz (l.getD (gN P - 1 - gS P w (lsb (gE P w))) 0) (gS P v (lsb (gE P w)))) (k - 1) : Nat) : Int) - 64)]
        rfl
