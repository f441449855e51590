def isF : Nat → Nat → (Nat → Nat) → Nat → Nat
  | 0, _, f => f
  | k + 1, x, f => isF k (x + 1) (uN (uN (uN f (0 + x) (1 * 2 ^ x)) (60 + x) (1 * 2 ^ x)) (120 + x) (1 * 2 ^ x))
def ehF (P : GD) (mu : Nat → Nat → Int) (l : Nat) : Nat → Nat → (Nat → Nat) → Nat → Nat
  | 0, _, f => f
  | k + 1, h, f => ehF P mu l k (h + 1) (if mu l h = 0 then f else aE P (aE P f l h) h l)
def elF (P : GD) (mu : Nat → Nat → Int) (n : Nat) : Nat → Nat → (Nat → Nat) → Nat → Nat
  | 0, _, f => f
  | k + 1, l, f => elF P mu n k (l + 1) (ehF P mu l (n - (l + 1)) (l + 1) f)
def edB (P : GD) (mu : Nat → Nat → Int) (kd a b : Nat) : Bool := decide (a = b) || (decide (mu (min a b) (max a b) ≠ 0) && edC P kd a b)
/-- what each kind leads to -/
def RCs (P : GD) (mu : Nat → Nat → Int) (n kd x : Nat) : Nat := clM 0 n n 0 (fun y => bitsU (edB P mu kd y) n) x
theorem ehF_BF {P : GD} {mu : Nat → Nat → Int} {n l : Nat} (hn : n ≤ 60) : ∀ k h f, h + k ≤ n → l < h → BF n f → BF n (ehF P mu l k h f) := by
  intro k
  induction k with
  | zero => intro h f _ _ hB; exact hB
  | succ k ih =>
    intro h f hh hl hB
    rw [ehF]
    refine ih _ _ (by omega) (by omega) ?_
    split
    · exact hB
    · exact aE_BF (aE_BF hB hn (by omega) (by omega)) hn (by omega) (by omega)
theorem elF_BF {P : GD} {mu : Nat → Nat → Int} {n : Nat} (hn : n ≤ 60) : ∀ k l f, l + k ≤ n → BF n f → BF n (elF P mu n k l f) := by
  intro k
  induction k with
  | zero => intro l f _ hB; exact hB
  | succ k ih => intro l f hl hB; exact ih _ _ (by omega) (ehF_BF hn _ _ _ (by omega) (by omega) hB)
/-- bits while edges are laid -/
def EB (P : GD) (mu : Nat → Nat → Int) (n l h : Nat) (f : Nat → Nat) : Prop :=
  ∀ kd a t, kd < 3 → a < n → (f (kd * 60 + a)).testBit t = (decide (a = t) || (decide (t < n ∧ a ≠ t ∧ (min a t < l ∨ (min a t = l ∧ max a t < h))) && decide (mu (min a t) (max a t) ≠ 0) && edC P kd a t))
theorem isF_off : ∀ k x f i, (i % 60 < x ∨ x + k ≤ i % 60) → i < 180 → x + k ≤ 60 → isF k x f i = f i := by
  intro k
  induction k with
  | zero => intro x f i _ _ _; rfl
  | succ k ih =>
    intro x f i h hi hx
    rw [isF, ih _ _ _ (by omega) hi (by omega), uN_ne (by omega), uN_ne (by omega), uN_ne (by omega)]
theorem isF_on : ∀ k x f kd a, kd < 3 → x ≤ a → a < x + k → x + k ≤ 60 → isF k x f (kd * 60 + a) = 2 ^ a := by
  intro k
  induction k with
  | zero => intro x f kd a _ _ _ _; omega
  | succ k ih =>
    intro x f kd a hk h1 h2 hx
    rw [isF]
    by_cases e : a = x
    · subst e
      rw [isF_off _ _ _ _ (Or.inl (by omega)) (by omega) (by omega)]
      have : kd = 0 ∨ kd = 1 ∨ kd = 2 := by omega
      rcases this with q | q | q <;> subst q
      · rw [uN_ne (by omega), uN_ne (by omega), show 0 * 60 + a = 0 + a by omega, uN_eq, Nat.one_mul]
      · rw [uN_ne (by omega), show 1 * 60 + a = 60 + a by omega, uN_eq, Nat.one_mul]
      · rw [show 2 * 60 + a = 120 + a by omega, uN_eq, Nat.one_mul]
    · exact ih _ _ _ _ hk (by omega) (by omega) (by omega)
theorem isF_BF {n : Nat} (hn : n ≤ 60) {f : Nat → Nat} : BF n (isF n 0 f) := by
  intro i hi hin
  have e : i = i / 60 * 60 + i % 60 := by omega
  rw [e, isF_on n 0 f (i / 60) (i % 60) (by omega) (by omega) (by omega) (by omega)]
  exact Nat.pow_lt_pow_right (by decide) (by omega)
theorem isF_EB {P : GD} {mu : Nat → Nat → Int} {n : Nat} (hn : n ≤ 60) {f : Nat → Nat} : EB P mu n 0 1 (isF n 0 f) := by
  intro kd a t hk ha
  rw [isF_on n 0 f kd a hk (by omega) (by omega) (by omega), Nat.testBit_two_pow]
  have h0 : ¬ (t < n ∧ a ≠ t ∧ (min a t < 0 ∨ (min a t = 0 ∧ max a t < 1))) := by omega
  rw [decide_eq_false h0]; simp
theorem EB_step {P : GD} {mu : Nat → Nat → Int} {n l h : Nat} {f : Nat → Nat} (hn : n ≤ 60) (hl : l < h) (hh : h < n) (hf : EB P mu n l h f) : EB P mu n l (h + 1) (if mu l h = 0 then f else aE P (aE P f l h) h l) := by
  intro kd a t hk ha
  have hb := hf kd a t hk ha
  by_cases hm : mu l h = 0
  · rw [if_pos hm, hb]
    by_cases e : min a t = l ∧ max a t = h
    · rw [e.1, e.2]; simp [hm]
    · have : (t < n ∧ a ≠ t ∧ (min a t < l ∨ (min a t = l ∧ max a t < h))) ↔ (t < n ∧ a ≠ t ∧ (min a t < l ∨ (min a t = l ∧ max a t < h + 1))) := by omega
      simp only [this]
  · rw [if_neg hm, aE_bit hk (by omega) (by omega), aE_bit hk (by omega) (by omega), hb]
    by_cases e1 : a = l ∧ t = h
    · obtain ⟨rfl, rfl⟩ := e1
      have hm1 : min a t = a := by omega
      have hm2 : max a t = t := by omega
      have h1 : ¬ (a = t) := by omega
      rw [hm1, hm2]
      simp [h1, hm, hh]
    · by_cases e2 : a = h ∧ t = l
      · obtain ⟨rfl, rfl⟩ := e2
        have hm1 : min a t = t := by omega
        have hm2 : max a t = a := by omega
        have h1 : ¬ (a = t) := by omega
        have h2 : t < n := by omega
        have h3 : ¬ (t = a) := by omega
        rw [hm1, hm2]
        simp [h1, hm, h2, h3]
      · have d1 : (decide (a = l) && decide (t = h) && edC P kd l h) = false := by
          by_cases q : a = l
          · have : ¬ t = h := fun q2 => e1 ⟨q, q2⟩
            simp [this]
          · simp [q]
        have d2 : (decide (a = h) && decide (t = l) && edC P kd h l) = false := by
          by_cases q : a = h
          · have : ¬ t = l := fun q2 => e2 ⟨q, q2⟩
            simp [this]
          · simp [q]
        rw [d1, d2, Bool.or_false, Bool.or_false]
        have : (t < n ∧ a ≠ t ∧ (min a t < l ∨ (min a t = l ∧ max a t < h))) ↔ (t < n ∧ a ≠ t ∧ (min a t < l ∨ (min a t = l ∧ max a t < h + 1))) := by omega
        simp only [this]
theorem EB_next {P : GD} {mu : Nat → Nat → Int} {n l : Nat} {f : Nat → Nat} (hf : EB P mu n l n f) : EB P mu n (l + 1) (l + 1 + 1) f := by
  intro kd a t hk ha
  rw [hf kd a t hk ha]
  have : (t < n ∧ a ≠ t ∧ (min a t < l ∨ (min a t = l ∧ max a t < n))) ↔ (t < n ∧ a ≠ t ∧ (min a t < l + 1 ∨ (min a t = l + 1 ∧ max a t < l + 1 + 1))) := by omega
  simp only [this]
theorem ehF_EB {P : GD} {mu : Nat → Nat → Int} {n l : Nat} (hn : n ≤ 60) : ∀ k h f, h + k = n → l < h → EB P mu n l h f → EB P mu n l n (ehF P mu l k h f) := by
  intro k
  induction k with
  | zero => intro h f hh _ hf; have : h = n := by omega
            subst this; exact hf
  | succ k ih => intro h f hh hl hf; exact ih _ _ (by omega) (by omega) (EB_step hn hl (by omega) hf)
theorem elF_EB {P : GD} {mu : Nat → Nat → Int} {n : Nat} (hn : n ≤ 60) : ∀ k l f, l + k = n → EB P mu n l (l + 1) f → EB P mu n n (n + 1) (elF P mu n k l f) := by
  intro k
  induction k with
  | zero => intro l f hl hf; have : l = n := by omega
            subst this; exact hf
  | succ k ih => intro l f hl hf; exact ih _ _ (by omega) (EB_next (ehF_EB hn _ _ _ (by omega) (by omega) hf))
theorem EB_end {P : GD} {mu : Nat → Nat → Int} {n : Nat} {f : Nat → Nat} (hf : EB P mu n n (n + 1) f) : ∀ kd a, kd < 3 → a < n → f (kd * 60 + a) = bitsU (edB P mu kd a) n := by
  intro kd a hk ha
  apply Nat.eq_of_testBit_eq
  intro t
  rw [hf kd a t hk ha, bitsU_bit, edB]
  by_cases h : t < n
  · by_cases e : a = t
    · simp [e, h, e ▸ ha]
    · have : (t < n ∧ a ≠ t ∧ (min a t < n ∨ (min a t = n ∧ max a t < n + 1))) := by omega
      simp [this, h, e]
  · have e : ¬ a = t := by omega
    simp [h, e]
theorem clX_ag {n s1 s2 m : Nat} (hm : m < n) : ∀ k x (f g : Nat → Nat), x + k ≤ n → (∀ y, y < n → f (s1 + y) = g (s2 + y)) → ∀ y, y < n → clX f s1 m k x (s1 + y) = clX g s2 m k x (s2 + y) := by
  intro k
  induction k with
  | zero => intro x f g _ h y hy; exact h y hy
  | succ k ih =>
    intro x f g hx h
    rw [clX, clX]
    refine ih _ _ _ (by omega) ?_
    intro y hy
    rw [h x (by omega)]
    split
    · rw [h m hm]
      by_cases e : y = x
      · subst e; rw [uN_eq, uN_eq]
      · rw [uN_ne (by omega), uN_ne (by omega)]; exact h y hy
    · exact h y hy
theorem clM_ag {n s1 s2 : Nat} : ∀ k m (f g : Nat → Nat), m + k ≤ n → (∀ y, y < n → f (s1 + y) = g (s2 + y)) → ∀ y, y < n → clM s1 n k m f (s1 + y) = clM s2 n k m g (s2 + y) := by
  intro k
  induction k with
  | zero => intro m f g _ h y hy; exact h y hy
  | succ k ih => intro m f g hm h; exact ih _ _ _ (by omega) (clX_ag (by omega) n 0 f g (by omega) h)
theorem clX_off {n s m i : Nat} (hi : i < s ∨ s + n ≤ i) : ∀ k x f, x + k ≤ n → clX f s m k x i = f i := by
  intro k
  induction k with
  | zero => intro x f _; rfl
  | succ k ih =>
    intro x f hx
    rw [clX, ih _ _ (by omega)]
    split
    · exact uN_ne (by omega)
    · rfl
theorem clM_off {n s i : Nat} (hi : i < s ∨ s + n ≤ i) : ∀ k m f, clM s n k m f i = f i := by
  intro k
  induction k with
  | zero => intro m f; rfl
  | succ k ih => intro m f; rw [clM, ih, clX_off hi n 0 f (by omega)]
def ceF (P : GD) (mu : Nat → Nat → Int) (n : Nat) (f : Nat → Nat) : Nat → Nat := clM 120 n n 0 (clM 60 n n 0 (clM 0 n n 0 (elF P mu n n 0 (isF n 0 f))))
theorem ceF_RC {P : GD} {mu : Nat → Nat → Int} {n : Nat} (hn : n ≤ 60) (f : Nat → Nat) : ∀ kd x, kd < 3 → x < n → ceF P mu n f (kd * 60 + x) = RCs P mu n kd x := by
  intro kd x hk hx
  have hE := EB_end (elF_EB hn n 0 _ (by omega) (isF_EB (P := P) (mu := mu) hn (f := f)))
  rw [ceF, RCs]
  generalize elF P mu n n 0 (isF n 0 f) = f1 at hE ⊢
  have hx0 : x = 0 + x := by omega
  have : kd = 0 ∨ kd = 1 ∨ kd = 2 := by omega
  rcases this with q | q | q <;> subst q
  · rw [clM_off (Or.inl (by omega)), clM_off (Or.inl (by omega)), show 0 * 60 + x = 0 + x by omega]
    conv => rhs; rw [hx0]
    refine clM_ag n 0 _ _ (by omega) (fun y hy => ?_) x hx
    have := hE 0 y (by omega) hy
    rw [show 0 * 60 + y = 0 + y by omega] at this
    rw [this, Nat.zero_add]
  · rw [clM_off (Or.inl (by omega)), show 1 * 60 + x = 60 + x by omega]
    conv => rhs; rw [hx0]
    refine clM_ag n 0 _ _ (by omega) (fun y hy => ?_) x hx
    have := hE 1 y (by omega) hy
    rw [show 1 * 60 + y = 60 + y by omega] at this
    rw [clM_off (Or.inr (by omega)), this, Nat.zero_add]
  · rw [show 2 * 60 + x = 120 + x by omega]
    conv => rhs; rw [hx0]
    refine clM_ag n 0 _ _ (by omega) (fun y hy => ?_) x hx
    have := hE 2 y (by omega) hy
    rw [show 2 * 60 + y = 120 + y by omega] at this
    rw [clM_off (Or.inr (by omega)), clM_off (Or.inr (by omega)), this, Nat.zero_add]
theorem RCs_lt {P : GD} {mu : Nat → Nat → Int} {n : Nat} (hn : n ≤ 60) {kd x : Nat} (hk : kd < 3) (hx : x < n) : RCs P mu n kd x < 2 ^ 60 := by
  rw [← ceF_RC hn (fun _ => 0) kd x hk hx]
  have h1 := elF_BF (P := P) (mu := mu) hn n 0 _ (by omega) (isF_BF hn (f := fun _ => 0))
  exact clM_BF (by omega) (by omega) hn n 0 _ (by omega) (clM_BF (by omega) (by omega) hn n 0 _ (by omega) (clM_BF (by omega) (by omega) hn n 0 _ (by omega) h1)) _ (by omega) (by omega)
set_option maxHeartbeats 2000000 in
set_option maxRecDepth 20000 in
theorem g_X0_prepare_74 {G : GG} {j nw nx gn : Nat} {g : Nat → Sh} {c : Nat → Nat → Int} {post : Option AV → AM → Prop} {e : Nat} (he : e = 21 ∨ e = 35) {P : GD} {l : Nat} {h : Nat} {f : Nat → Nat} (hE : EL c e P) (hV : GV P)  (hv : (h < 2147483648) ∧ (gN P < 2147483648) ∧ (((gN P ≤ h) → SW G (j + 3) mX0_prepare 61 [some (vr (7)), some (vr (e)), some (vr (5)), some (vi (((l + 1 : Nat) : Int))), none] [] (S nw nx g, 78 + gn, (wr c 8 (cN f))) B0 post) ∧ ((¬ (gN P ≤ h)) → (l < gN P) ∧ (h < gN P) ∧ ((-2147483648 ≤ muG P ((wr c 8 (cN f)) 6) l h ∧ muG P ((wr c 8 (cN f)) 6) l h < 2147483648) ∧ (((muG P ((wr c 8 (cN f)) 6) l h = 0) → SW G (j + 3) mX0_prepare 74 [some (vr (7)), some (vr (e)), some (vr (5)), some (vi (((l : Nat) : Int))), some (vi (((h + 1 : Nat) : Int)))] [] (S nw nx g, 78 + gn, (wr c 8 (cN f))) B0 post) ∧ ((¬ (muG P ((wr c 8 (cN f)) 6) l h = 0)) → (l < gN P) ∧ (h < gN P) ∧ ((h < gN P) ∧ (l < gN P) ∧ (SW G (j + 3) mX0_prepare 74 [some (vr (7)), some (vr (e)), some (vr (5)), some (vi (((l : Nat) : Int))), some (vi (((h + 1 : Nat) : Int)))] [] (S nw nx g, 78 + gn, (wr c 8 (cN (aE P (aE P f l h) h l)))) B0 post)))))))) :
    SW G (j + 3) mX0_prepare 74 [some (vr (7)), some (vr (e)), some (vr (5)), some (vi (((l : Nat) : Int))), some (vi (((h : Nat) : Int)))] [] (S nw nx g, 78 + gn, (wr c 8 (cN f))) B0 post := by
  refine sw_iload (dX0_prepare_0.at 43 rfl) rfl ?_
  refine sw_aload_n (dX0_prepare_0.at 44 rfl) rfl rfl ?_
  refine sw_getIE (w := ((gN P : Nat) : Int)) (dX0_prepare_0.at 45 rfl) fp_X0_19 (S_e_lt he) (S_e he) rfl ((wr_off (c := c) (a := 8) (f := (cN f)) (i := e) (k := 14) (by omega)).trans (EL_N hE)) ?_
  refine sw_icmpN_ge h (gN P) (tgt := 116) (dX0_prepare_0.at 46 rfl) (by decide) hv.1 hv.2.1 (fun q => ?_) (fun q => ?_)
  · replace hv := hv.2.2.1 q
    refine sw_iinc (lo' := [some (vr (7)), some (vr (e)), some (vr (5)), some (vi (((l + 1 : Nat) : Int))), some (vi (((h : Nat) : Int)))]) (dX0_prepare_1.at 15 rfl) rfl (by decide) rfl ?_
    refine sw_goto (tgt := 61) (dX0_prepare_1.at 16 rfl) (by decide) ?_
    exact sw_mask (bs := [true, true, true, true, false]) hv
  · replace hv := hv.2.2.2 q
    refine sw_aload_n (dX0_prepare_0.at 47 rfl) rfl rfl ?_
    refine sw_aload_n (dX0_prepare_0.at 48 rfl) rfl rfl ?_
    refine sw_iload_n (dX0_prepare_0.at 49 rfl) rfl rfl ?_
    refine sw_iload (dX0_prepare_1.at 0 rfl) rfl ?_
    refine sw_callV (B' := B0) (As := [vr (e), vi (((l : Nat) : Int)), vi (((h : Nat) : Int))]) (mc := 0) (ms := 0) (dX0_prepare_1.at 1 rfl) lk_X0_25 (S_lt 5 (by decide)) (S_5 nw nx g) rfl rfl (Nat.le_of_ble_eq_true rfl) rfl (Nat.le_refl _) (Nat.le_refl _) ?_
    refine c_X4_middle (e := e) (v := l) (w := h) (j := j + 1) he (EL_wr (a := 8) (f := (cN f)) hE he (by decide)) hV hv.1 hv.2.1 ?_
    replace hv := hv.2.2
    refine sw_if_eq (tgt := 110) (dX0_prepare_1.at 2 rfl) (by decide) hv.1 (fun q => ?_) (fun q => ?_)
    · replace hv := hv.2.1 q
      refine sw_iinc (lo' := [some (vr (7)), some (vr (e)), some (vr (5)), some (vi (((l : Nat) : Int))), some (vi (((h + 1 : Nat) : Int)))]) (dX0_prepare_1.at 13 rfl) rfl (by decide) rfl ?_
      refine sw_goto (tgt := 74) (dX0_prepare_1.at 14 rfl) (by decide) ?_
      exact hv
    · replace hv := hv.2.2 q
      refine sw_aload_n (dX0_prepare_1.at 3 rfl) rfl rfl ?_
      refine sw_aload_n (dX0_prepare_1.at 4 rfl) rfl rfl ?_
      refine sw_iload_n (dX0_prepare_1.at 5 rfl) rfl rfl ?_
      refine sw_iload (dX0_prepare_1.at 6 rfl) rfl ?_
      refine sw_callV (B' := B0) (As := [vr (e), vi (((l : Nat) : Int)), vi (((h : Nat) : Int))]) (mc := 0) (ms := 0) (dX0_prepare_1.at 7 rfl) lk_X0_31 (S_lt 7 (by decide)) (S_7 nw nx g) rfl rfl (Nat.le_of_ble_eq_true rfl) rfl (Nat.le_refl _) (Nat.le_refl _) ?_
      refine c_X0_addEdge (a := l) (b := h) (f := f) (j := j + 1) he hE hV hv.1 hv.2.1 ?_
      replace hv := hv.2.2
      refine sw_aload_n (dX0_prepare_1.at 8 rfl) rfl rfl ?_
      refine sw_aload_n (dX0_prepare_1.at 9 rfl) rfl rfl ?_
      refine sw_iload (dX0_prepare_1.at 10 rfl) rfl ?_
      refine sw_iload_n (dX0_prepare_1.at 11 rfl) rfl rfl ?_
      refine sw_callV (B' := B0) (As := [vr (e), vi (((h : Nat) : Int)), vi (((l : Nat) : Int))]) (mc := 0) (ms := 0) (dX0_prepare_1.at 12 rfl) lk_X0_31 (S_lt 7 (by decide)) (S_7 nw nx g) rfl rfl (Nat.le_of_ble_eq_true rfl) rfl (Nat.le_refl _) (Nat.le_refl _) ?_
      refine c_X0_addEdge (a := h) (b := l) (f := (aE P f l h)) (j := j + 1) he hE hV hv.1 hv.2.1 ?_
      replace hv := hv.2.2
      refine sw_iinc (lo' := [some (vr (7)), some (vr (e)), some (vr (5)), some (vi (((l : Nat) : Int))), some (vi (((h + 1 : Nat) : Int)))]) (dX0_prepare_1.at 13 rfl) rfl (by decide) rfl ?_
      refine sw_goto (tgt := 74) (dX0_prepare_1.at 14 rfl) (by decide) ?_
      exact hv

set_option maxHeartbeats 4000000 in
theorem lp_X0_prepare_74 {G : GG} {j nw nx gn : Nat} {g : Nat → Sh} {c : Nat → Nat → Int} {post : Option AV → AM → Prop} {P : GD} {l : Nat} {e : Nat} (he : e = 21 ∨ e = 35) (hE : EL c e P) (hV : GV P) (hm : ∀ a b, a < gN P → b < gN P → -2147483648 ≤ muG P (c 6) a b ∧ muG P (c 6) a b < 2147483648) : ∀ (k : Nat) (h : Nat) (f : Nat → Nat), h + k = gN P → (l < h) → (SW G (j + 3) mX0_prepare 61 [some (vr (7)), some (vr (e)), some (vr (5)), some (vi (((l + 1 : Nat) : Int))), none] [] (S nw nx g, 78 + gn, (wr c 8 (cN (ehF P (muG P (c 6)) l k h f)))) B0 post) → SW G (j + 3) mX0_prepare 74 [some (vr (7)), some (vr (e)), some (vr (5)), some (vi (((l : Nat) : Int))), some (vi (((h : Nat) : Int)))] [] (S nw nx g, 78 + gn, (wr c 8 (cN f))) B0 post := by
  intro k
  induction k with
  | zero =>
    intro h f hrel hl K
    have h60 := GV_N hV
    simp only [ehF] at K
    refine g_X0_prepare_74 he hE hV  ?_
    refine ⟨?_, ?_, ⟨fun q => ?_, fun q => ⟨?_, ?_, ⟨?_, ⟨fun q => ?_, fun q => ⟨?_, ?_, ⟨?_, ?_, ?_⟩⟩⟩⟩⟩⟩⟩
    all_goals first | omega | exact K | (exfalso; omega) | (simp only [*, if_true, if_false, ite_true, ite_false, Bool.false_eq_true, and_true, true_and, and_false, false_and, and_self, or_true, true_or, or_false, false_or, Bool.and_true, Bool.and_false, Bool.true_and, Bool.false_and, decide_true, decide_false, eq_self, not_true_eq_false, not_false_eq_true, ne_eq, reduceCtorEq] at K; exact K)
  | succ k ih =>
    intro h f hrel hl K
    have h60 := GV_N hV
    rw [ehF] at K
    have m9 := hm l h (by omega) (by omega)
    refine g_X0_prepare_74 he hE hV  ?_
    
    rw [show wr c 8 (cN f) 6 = c 6 from rfl]
    refine ⟨?_, ?_, ⟨fun q => ?_, fun q => ⟨?_, ?_, ⟨?_, ⟨fun q => ?_, fun q => ⟨?_, ?_, ⟨?_, ?_, ?_⟩⟩⟩⟩⟩⟩⟩
    all_goals first | omega | exact m9 | (exfalso; omega) | (rw [if_pos (by assumption)] at K; exact ih _ _ (by omega) (by omega) K) | (rw [if_neg (by assumption)] at K; exact ih _ _ (by omega) (by omega) K)

set_option maxHeartbeats 2000000 in
set_option maxRecDepth 20000 in
theorem g_X0_prepare_61 {G : GG} {j nw nx gn : Nat} {g : Nat → Sh} {c : Nat → Nat → Int} {post : Option AV → AM → Prop} {e : Nat} (he : e = 21 ∨ e = 35) {P : GD} {l : Nat} {f : Nat → Nat} (hE : EL c e P) (hV : GV P)  (hv : (l < 2147483648) ∧ (gN P < 2147483648) ∧ (((gN P ≤ l) → (0 % 60 = 0) ∧ (0 + (gN P) ≤ 180) ∧ ((gN P) ≤ 60) ∧ (BF (gN P) f) ∧ ((60 % 60 = 0) ∧ (60 + (gN P) ≤ 180) ∧ ((gN P) ≤ 60) ∧ (BF (gN P) (clM 0 (gN P) (gN P) 0 f)) ∧ ((120 % 60 = 0) ∧ (120 + (gN P) ≤ 180) ∧ ((gN P) ≤ 60) ∧ (BF (gN P) (clM 60 (gN P) (gN P) 0 (clM 0 (gN P) (gN P) 0 f))) ∧ (post none (S nw nx g, 78 + gn, (wr c 8 (cN (clM 120 (gN P) (gN P) 0 (clM 60 (gN P) (gN P) 0 (clM 0 (gN P) (gN P) 0 f)))))))))) ∧ ((¬ (gN P ≤ l)) → SW G (j + 3) mX0_prepare 74 [some (vr (7)), some (vr (e)), some (vr (5)), some (vi (((l : Nat) : Int))), some (vi (((l + 1 : Nat) : Int)))] [] (S nw nx g, 78 + gn, (wr c 8 (cN f))) B0 post))) :
    SW G (j + 3) mX0_prepare 61 [some (vr (7)), some (vr (e)), some (vr (5)), some (vi (((l : Nat) : Int))), none] [] (S nw nx g, 78 + gn, (wr c 8 (cN f))) B0 post := by
  refine sw_iload_n (dX0_prepare_0.at 35 rfl) rfl rfl ?_
  refine sw_aload_n (dX0_prepare_0.at 36 rfl) rfl rfl ?_
  refine sw_getIE (w := ((gN P : Nat) : Int)) (dX0_prepare_0.at 37 rfl) fp_X0_19 (S_e_lt he) (S_e he) rfl ((wr_off (c := c) (a := 8) (f := (cN f)) (i := e) (k := 14) (by omega)).trans (EL_N hE)) ?_
  refine sw_icmpN_ge l (gN P) (tgt := 122) (dX0_prepare_0.at 38 rfl) (by decide) hv.1 hv.2.1 (fun q => ?_) (fun q => ?_)
  · replace hv := hv.2.2.1 q
    refine sw_iconst (dX0_prepare_1.at 17 rfl) ?_
    refine sw_istore_n (lo' := [some (vr (7)), some (vr (e)), some (vr (5)), some (vi (0)), none]) (dX0_prepare_1.at 18 rfl) rfl (by decide) rfl ?_
    refine sw_iload_n (dX0_prepare_1.at 19 rfl) rfl rfl ?_
    refine sw_iconst (dX0_prepare_1.at 20 rfl) ?_
    refine sw_icmp_ge (tgt := 147) (dX0_prepare_1.at 21 rfl) (by decide) (by decide) (by decide) (fun q => ?_) (fun q => ?_)
    · exact absurd q (by decide)
    · clear q
      refine sw_aload_n (dX0_prepare_1.at 22 rfl) rfl rfl ?_
      refine sw_iload_n (dX0_prepare_1.at 23 rfl) rfl rfl ?_
      refine sw_bipush (dX0_prepare_1.at 24 rfl) (by decide) ?_
      refine sw_imul (dX0_prepare_1.at 25 rfl) ?_
      refine sw_topI (y := 0) (by first | rfl | (congr 1)) ?_
      refine sw_aload_n (dX0_prepare_1.at 26 rfl) rfl rfl ?_
      refine sw_getIE (w := ((gN P : Nat) : Int)) (dX0_prepare_1.at 27 rfl) fp_X0_19 (S_e_lt he) (S_e he) rfl ((wr_off (c := c) (a := 8) (f := (cN f)) (i := e) (k := 14) (by omega)).trans (EL_N hE)) ?_
      refine sw_callV (B' := B0) (As := [vi (0), vi (((gN P : Nat) : Int))]) (mc := 0) (ms := 0) (dX0_prepare_1.at 28 rfl) lk_X0_35 (S_lt 7 (by decide)) (S_7 nw nx g) rfl rfl (Nat.le_of_ble_eq_true rfl) rfl (Nat.le_refl _) (Nat.le_refl _) ?_
      refine c_X0_close (st := 0) (q0 := (gN P)) (f := f) (j := j + 1) hv.1 hv.2.1 hv.2.2.1 hv.2.2.2.1 ?_
      replace hv := hv.2.2.2.2
      refine sw_iinc (lo' := [some (vr (7)), some (vr (e)), some (vr (5)), some (vi (1)), none]) (dX0_prepare_1.at 29 rfl) rfl (by decide) rfl ?_
      refine sw_goto (tgt := 124) (dX0_prepare_1.at 30 rfl) (by decide) ?_
      refine sw_iload_n (dX0_prepare_1.at 19 rfl) rfl rfl ?_
      refine sw_iconst (dX0_prepare_1.at 20 rfl) ?_
      refine sw_icmp_ge (tgt := 147) (dX0_prepare_1.at 21 rfl) (by decide) (by decide) (by decide) (fun q => ?_) (fun q => ?_)
      · exact absurd q (by decide)
      · clear q
        refine sw_aload_n (dX0_prepare_1.at 22 rfl) rfl rfl ?_
        refine sw_iload_n (dX0_prepare_1.at 23 rfl) rfl rfl ?_
        refine sw_bipush (dX0_prepare_1.at 24 rfl) (by decide) ?_
        refine sw_imul (dX0_prepare_1.at 25 rfl) ?_
        refine sw_topI (y := 60) (by first | rfl | (congr 1)) ?_
        refine sw_aload_n (dX0_prepare_1.at 26 rfl) rfl rfl ?_
        refine sw_getIE (w := ((gN P : Nat) : Int)) (dX0_prepare_1.at 27 rfl) fp_X0_19 (S_e_lt he) (S_e he) rfl ((wr_off (c := c) (a := 8) (f := (cN (clM 0 (gN P) (gN P) 0 f))) (i := e) (k := 14) (by omega)).trans (EL_N hE)) ?_
        refine sw_callV (B' := B0) (As := [vi (60), vi (((gN P : Nat) : Int))]) (mc := 0) (ms := 0) (dX0_prepare_1.at 28 rfl) lk_X0_35 (S_lt 7 (by decide)) (S_7 nw nx g) rfl rfl (Nat.le_of_ble_eq_true rfl) rfl (Nat.le_refl _) (Nat.le_refl _) ?_
        refine c_X0_close (st := 60) (q0 := (gN P)) (f := (clM 0 (gN P) (gN P) 0 f)) (j := j + 1) hv.1 hv.2.1 hv.2.2.1 hv.2.2.2.1 ?_
        replace hv := hv.2.2.2.2
        refine sw_iinc (lo' := [some (vr (7)), some (vr (e)), some (vr (5)), some (vi (2)), none]) (dX0_prepare_1.at 29 rfl) rfl (by decide) rfl ?_
        refine sw_goto (tgt := 124) (dX0_prepare_1.at 30 rfl) (by decide) ?_
        refine sw_iload_n (dX0_prepare_1.at 19 rfl) rfl rfl ?_
        refine sw_iconst (dX0_prepare_1.at 20 rfl) ?_
        refine sw_icmp_ge (tgt := 147) (dX0_prepare_1.at 21 rfl) (by decide) (by decide) (by decide) (fun q => ?_) (fun q => ?_)
        · exact absurd q (by decide)
        · clear q
          refine sw_aload_n (dX0_prepare_1.at 22 rfl) rfl rfl ?_
          refine sw_iload_n (dX0_prepare_1.at 23 rfl) rfl rfl ?_
          refine sw_bipush (dX0_prepare_1.at 24 rfl) (by decide) ?_
          refine sw_imul (dX0_prepare_1.at 25 rfl) ?_
          refine sw_topI (y := 120) (by first | rfl | (congr 1)) ?_
          refine sw_aload_n (dX0_prepare_1.at 26 rfl) rfl rfl ?_
          refine sw_getIE (w := ((gN P : Nat) : Int)) (dX0_prepare_1.at 27 rfl) fp_X0_19 (S_e_lt he) (S_e he) rfl ((wr_off (c := c) (a := 8) (f := (cN (clM 60 (gN P) (gN P) 0 (clM 0 (gN P) (gN P) 0 f)))) (i := e) (k := 14) (by omega)).trans (EL_N hE)) ?_
          refine sw_callV (B' := B0) (As := [vi (120), vi (((gN P : Nat) : Int))]) (mc := 0) (ms := 0) (dX0_prepare_1.at 28 rfl) lk_X0_35 (S_lt 7 (by decide)) (S_7 nw nx g) rfl rfl (Nat.le_of_ble_eq_true rfl) rfl (Nat.le_refl _) (Nat.le_refl _) ?_
          refine c_X0_close (st := 120) (q0 := (gN P)) (f := (clM 60 (gN P) (gN P) 0 (clM 0 (gN P) (gN P) 0 f))) (j := j + 1) hv.1 hv.2.1 hv.2.2.1 hv.2.2.2.1 ?_
          replace hv := hv.2.2.2.2
          refine sw_iinc (lo' := [some (vr (7)), some (vr (e)), some (vr (5)), some (vi (3)), none]) (dX0_prepare_1.at 29 rfl) rfl (by decide) rfl ?_
          refine sw_goto (tgt := 124) (dX0_prepare_1.at 30 rfl) (by decide) ?_
          refine sw_iload_n (dX0_prepare_1.at 19 rfl) rfl rfl ?_
          refine sw_iconst (dX0_prepare_1.at 20 rfl) ?_
          refine sw_icmp_ge (tgt := 147) (dX0_prepare_1.at 21 rfl) (by decide) (by decide) (by decide) (fun q => ?_) (fun q => ?_)
          · clear q
            exact sw_vret (dX0_prepare_1.at 31 rfl) rfl (Nat.le_refl _) (Nat.le_refl _) hv
          · exact absurd q (by decide)
  · replace hv := hv.2.2.2 q
    refine sw_iload_n (dX0_prepare_0.at 39 rfl) rfl rfl ?_
    refine sw_iconst (dX0_prepare_0.at 40 rfl) ?_
    refine sw_iadd (dX0_prepare_0.at 41 rfl) ?_
    refine sw_topI (y := ((l + 1 : Nat) : Int)) (by first | rfl | (congr 1)) ?_
    refine sw_istore (lo' := [some (vr (7)), some (vr (e)), some (vr (5)), some (vi (((l : Nat) : Int))), some (vi (((l + 1 : Nat) : Int)))]) (dX0_prepare_0.at 42 rfl) (by decide) rfl ?_
    exact hv

set_option maxHeartbeats 4000000 in
theorem lp_X0_prepare_61 {G : GG} {j nw nx gn : Nat} {g : Nat → Sh} {c : Nat → Nat → Int} {post : Option AV → AM → Prop} {P : GD} {e : Nat} (he : e = 21 ∨ e = 35) (hE : EL c e P) (hV : GV P) (hm : ∀ a b, a < gN P → b < gN P → -2147483648 ≤ muG P (c 6) a b ∧ muG P (c 6) a b < 2147483648) : ∀ (k : Nat) (l : Nat) (f : Nat → Nat), l + k = gN P → (BF (gN P) f) → (post none (S nw nx g, 78 + gn, (wr c 8 (cN (clM 120 (gN P) (gN P) 0 (clM 60 (gN P) (gN P) 0 (clM 0 (gN P) (gN P) 0 (elF P (muG P (c 6)) (gN P) k l f)))))))) → SW G (j + 3) mX0_prepare 61 [some (vr (7)), some (vr (e)), some (vr (5)), some (vi (((l : Nat) : Int))), none] [] (S nw nx g, 78 + gn, (wr c 8 (cN f))) B0 post := by
  intro k
  induction k with
  | zero =>
    intro l f hrel hB K
    have h60 := GV_N hV
    rw [elF] at K
    have b1 := clM_BF (st := 0) (by omega) (by omega) h60 (gN P) 0 f (by omega) hB
    have b2 := clM_BF (st := 60) (by omega) (by omega) h60 (gN P) 0 _ (by omega) b1
    refine g_X0_prepare_61 he hE hV  ?_
    refine ⟨?_, ?_, ⟨fun q => ⟨?_, ?_, ?_, ?_, ⟨?_, ?_, ?_, ?_, ⟨?_, ?_, ?_, ?_, ?_⟩⟩⟩, fun q => ?_⟩⟩
    all_goals first | omega | exact K | exact hB | exact b1 | exact b2 | (exfalso; omega)
  | succ k ih =>
    intro l f hrel hB K
    have h60 := GV_N hV
    rw [elF] at K
    refine g_X0_prepare_61 he hE hV  ?_
    
    refine ⟨?_, ?_, ⟨fun q => ⟨?_, ?_, ?_, ?_, ⟨?_, ?_, ?_, ?_, ⟨?_, ?_, ?_, ?_, ?_⟩⟩⟩, fun q => ?_⟩⟩
    all_goals first | omega | (exfalso; omega) | exact hB | exact lp_X0_prepare_74 he hE hV hm (gN P - (l + 1)) (l + 1) f (by omega) (by omega) (ih _ _ (by omega) (ehF_BF h60 _ _ _ (by omega) (by omega) hB) K)

set_option maxHeartbeats 2000000 in
set_option maxRecDepth 20000 in
theorem g_X0_prepare_15 {G : GG} {j nw nx gn : Nat} {g : Nat → Sh} {c : Nat → Nat → Int} {post : Option AV → AM → Prop} {e : Nat} (he : e = 21 ∨ e = 35) {P : GD} {x : Nat} {f : Nat → Nat} (hE : EL c e P) (hV : GV P)  (hv : (x < 2147483648) ∧ (gN P < 2147483648) ∧ (((gN P ≤ x) → SW G (j + 3) mX0_prepare 61 [some (vr (7)), some (vr (e)), some (vr (5)), some (vi (0)), none] [] (S nw nx g, 78 + gn, (wr c 8 (cN f))) B0 post) ∧ ((¬ (gN P ≤ x)) → (x < 64) ∧ ((0 + x < 180) ∧ ((x < 64) ∧ ((60 + x < 180) ∧ ((x < 64) ∧ ((120 + x < 180) ∧ (SW G (j + 3) mX0_prepare 15 [some (vr (7)), some (vr (e)), some (vr (5)), some (vi (((x + 1 : Nat) : Int))), none] [] (S nw nx g, 78 + gn, (wr c 8 (cN (uN (uN (uN f (0 + x) (1 * 2 ^ x)) (60 + x) (1 * 2 ^ x)) (120 + x) (1 * 2 ^ x))))) B0 post))))))))) :
    SW G (j + 3) mX0_prepare 15 [some (vr (7)), some (vr (e)), some (vr (5)), some (vi (((x : Nat) : Int))), none] [] (S nw nx g, 78 + gn, (wr c 8 (cN f))) B0 post := by
  refine sw_iload_n (dX0_prepare_0.at 9 rfl) rfl rfl ?_
  refine sw_aload_n (dX0_prepare_0.at 10 rfl) rfl rfl ?_
  refine sw_getIE (w := ((gN P : Nat) : Int)) (dX0_prepare_0.at 11 rfl) fp_X0_19 (S_e_lt he) (S_e he) rfl ((wr_off (c := c) (a := 8) (f := (cN f)) (i := e) (k := 14) (by omega)).trans (EL_N hE)) ?_
  refine sw_icmpN_ge x (gN P) (tgt := 59) (dX0_prepare_0.at 12 rfl) (by decide) hv.1 hv.2.1 (fun q => ?_) (fun q => ?_)
  · replace hv := hv.2.2.1 q
    refine sw_iconst (dX0_prepare_0.at 33 rfl) ?_
    refine sw_istore_n (lo' := [some (vr (7)), some (vr (e)), some (vr (5)), some (vi (0)), none]) (dX0_prepare_0.at 34 rfl) rfl (by decide) rfl ?_
    exact hv
  · replace hv := hv.2.2.2 q
    refine sw_iconst (dX0_prepare_0.at 13 rfl) ?_
    refine sw_istore (lo' := [some (vr (7)), some (vr (e)), some (vr (5)), some (vi (((x : Nat) : Int))), some (vi (0))]) (dX0_prepare_0.at 14 rfl) (by decide) rfl ?_
    refine sw_iload (dX0_prepare_0.at 15 rfl) rfl ?_
    refine sw_iconst (dX0_prepare_0.at 16 rfl) ?_
    refine sw_icmp_ge (tgt := 53) (dX0_prepare_0.at 17 rfl) (by decide) (by decide) (by decide) (fun q => ?_) (fun q => ?_)
    · exact absurd q (by decide)
    · clear q
      refine sw_aload_n (dX0_prepare_0.at 18 rfl) rfl rfl ?_
      refine sw_getR (dX0_prepare_0.at 19 rfl) fp_X0_9 (S_lt 7 (by decide)) (S_7 nw nx g) rfl rfl ?_
      refine sw_iload (dX0_prepare_0.at 20 rfl) rfl ?_
      refine sw_bipush (dX0_prepare_0.at 21 rfl) (by decide) ?_
      refine sw_imul (dX0_prepare_0.at 22 rfl) ?_
      refine sw_topI (y := 0) (by first | rfl | (congr 1)) ?_
      refine sw_iload_n (dX0_prepare_0.at 23 rfl) rfl rfl ?_
      refine sw_iadd (dX0_prepare_0.at 24 rfl) ?_
      refine sw_topI (y := ((0 + x : Nat) : Int)) (by first | rfl | (congr 1)) ?_
      refine sw_lconst (z := 1) (dX0_prepare_0.at 25 rfl) (by decide) ?_
      refine sw_iload_n (dX0_prepare_0.at 26 rfl) rfl rfl ?_
      refine sw_lshlN 1 x (dX0_prepare_0.at 27 rfl) hv.1 ?_
      replace hv := hv.2
      refine sw_lastN (0 + x) (dX0_prepare_0.at 28 rfl) (S_lt 8 (by decide)) (S_8 nw nx g) (by decide) hv.1 ?_
      refine SW.cg (M' := (S nw nx g, 78 + gn, (wr c 8 (cN (uN f (0 + x) (1 * 2 ^ x)))))) (congrArg (fun m => (S nw nx g, 78 + gn, m)) (wr_upN c 8 f (0 + x) (1 * 2 ^ x))) ?_
      replace hv := hv.2
      refine sw_iinc (lo' := [some (vr (7)), some (vr (e)), some (vr (5)), some (vi (((x : Nat) : Int))), some (vi (1))]) (dX0_prepare_0.at 29 rfl) rfl (by decide) rfl ?_
      refine sw_goto (tgt := 26) (dX0_prepare_0.at 30 rfl) (by decide) ?_
      refine sw_iload (dX0_prepare_0.at 15 rfl) rfl ?_
      refine sw_iconst (dX0_prepare_0.at 16 rfl) ?_
      refine sw_icmp_ge (tgt := 53) (dX0_prepare_0.at 17 rfl) (by decide) (by decide) (by decide) (fun q => ?_) (fun q => ?_)
      · exact absurd q (by decide)
      · clear q
        refine sw_aload_n (dX0_prepare_0.at 18 rfl) rfl rfl ?_
        refine sw_getR (dX0_prepare_0.at 19 rfl) fp_X0_9 (S_lt 7 (by decide)) (S_7 nw nx g) rfl rfl ?_
        refine sw_iload (dX0_prepare_0.at 20 rfl) rfl ?_
        refine sw_bipush (dX0_prepare_0.at 21 rfl) (by decide) ?_
        refine sw_imul (dX0_prepare_0.at 22 rfl) ?_
        refine sw_topI (y := 60) (by first | rfl | (congr 1)) ?_
        refine sw_iload_n (dX0_prepare_0.at 23 rfl) rfl rfl ?_
        refine sw_iadd (dX0_prepare_0.at 24 rfl) ?_
        refine sw_topI (y := ((60 + x : Nat) : Int)) (by first | rfl | (congr 1)) ?_
        refine sw_lconst (z := 1) (dX0_prepare_0.at 25 rfl) (by decide) ?_
        refine sw_iload_n (dX0_prepare_0.at 26 rfl) rfl rfl ?_
        refine sw_lshlN 1 x (dX0_prepare_0.at 27 rfl) hv.1 ?_
        replace hv := hv.2
        refine sw_lastN (60 + x) (dX0_prepare_0.at 28 rfl) (S_lt 8 (by decide)) (S_8 nw nx g) (by decide) hv.1 ?_
        refine SW.cg (M' := (S nw nx g, 78 + gn, (wr c 8 (cN (uN (uN f (0 + x) (1 * 2 ^ x)) (60 + x) (1 * 2 ^ x)))))) (congrArg (fun m => (S nw nx g, 78 + gn, m)) (wr_upN c 8 (uN f (0 + x) (1 * 2 ^ x)) (60 + x) (1 * 2 ^ x))) ?_
        replace hv := hv.2
        refine sw_iinc (lo' := [some (vr (7)), some (vr (e)), some (vr (5)), some (vi (((x : Nat) : Int))), some (vi (2))]) (dX0_prepare_0.at 29 rfl) rfl (by decide) rfl ?_
        refine sw_goto (tgt := 26) (dX0_prepare_0.at 30 rfl) (by decide) ?_
        refine sw_iload (dX0_prepare_0.at 15 rfl) rfl ?_
        refine sw_iconst (dX0_prepare_0.at 16 rfl) ?_
        refine sw_icmp_ge (tgt := 53) (dX0_prepare_0.at 17 rfl) (by decide) (by decide) (by decide) (fun q => ?_) (fun q => ?_)
        · exact absurd q (by decide)
        · clear q
          refine sw_aload_n (dX0_prepare_0.at 18 rfl) rfl rfl ?_
          refine sw_getR (dX0_prepare_0.at 19 rfl) fp_X0_9 (S_lt 7 (by decide)) (S_7 nw nx g) rfl rfl ?_
          refine sw_iload (dX0_prepare_0.at 20 rfl) rfl ?_
          refine sw_bipush (dX0_prepare_0.at 21 rfl) (by decide) ?_
          refine sw_imul (dX0_prepare_0.at 22 rfl) ?_
          refine sw_topI (y := 120) (by first | rfl | (congr 1)) ?_
          refine sw_iload_n (dX0_prepare_0.at 23 rfl) rfl rfl ?_
          refine sw_iadd (dX0_prepare_0.at 24 rfl) ?_
          refine sw_topI (y := ((120 + x : Nat) : Int)) (by first | rfl | (congr 1)) ?_
          refine sw_lconst (z := 1) (dX0_prepare_0.at 25 rfl) (by decide) ?_
          refine sw_iload_n (dX0_prepare_0.at 26 rfl) rfl rfl ?_
          refine sw_lshlN 1 x (dX0_prepare_0.at 27 rfl) hv.1 ?_
          replace hv := hv.2
          refine sw_lastN (120 + x) (dX0_prepare_0.at 28 rfl) (S_lt 8 (by decide)) (S_8 nw nx g) (by decide) hv.1 ?_
          refine SW.cg (M' := (S nw nx g, 78 + gn, (wr c 8 (cN (uN (uN (uN f (0 + x) (1 * 2 ^ x)) (60 + x) (1 * 2 ^ x)) (120 + x) (1 * 2 ^ x)))))) (congrArg (fun m => (S nw nx g, 78 + gn, m)) (wr_upN c 8 (uN (uN f (0 + x) (1 * 2 ^ x)) (60 + x) (1 * 2 ^ x)) (120 + x) (1 * 2 ^ x))) ?_
          replace hv := hv.2
          refine sw_iinc (lo' := [some (vr (7)), some (vr (e)), some (vr (5)), some (vi (((x : Nat) : Int))), some (vi (3))]) (dX0_prepare_0.at 29 rfl) rfl (by decide) rfl ?_
          refine sw_goto (tgt := 26) (dX0_prepare_0.at 30 rfl) (by decide) ?_
          refine sw_iload (dX0_prepare_0.at 15 rfl) rfl ?_
          refine sw_iconst (dX0_prepare_0.at 16 rfl) ?_
          refine sw_icmp_ge (tgt := 53) (dX0_prepare_0.at 17 rfl) (by decide) (by decide) (by decide) (fun q => ?_) (fun q => ?_)
          · clear q
            refine sw_iinc (lo' := [some (vr (7)), some (vr (e)), some (vr (5)), some (vi (((x + 1 : Nat) : Int))), some (vi (3))]) (dX0_prepare_0.at 31 rfl) rfl (by decide) rfl ?_
            refine sw_goto (tgt := 15) (dX0_prepare_0.at 32 rfl) (by decide) ?_
            exact sw_mask (bs := [true, true, true, true, false]) hv
          · exact absurd q (by decide)

set_option maxHeartbeats 4000000 in
theorem lp_X0_prepare_15 {G : GG} {j nw nx gn : Nat} {g : Nat → Sh} {c : Nat → Nat → Int} {post : Option AV → AM → Prop} {P : GD} {e : Nat} (he : e = 21 ∨ e = 35) (hE : EL c e P) (hV : GV P) : ∀ (k : Nat) (x : Nat) (f : Nat → Nat), x + k = gN P → (SW G (j + 3) mX0_prepare 61 [some (vr (7)), some (vr (e)), some (vr (5)), some (vi (0)), none] [] (S nw nx g, 78 + gn, (wr c 8 (cN (isF k x f)))) B0 post) → SW G (j + 3) mX0_prepare 15 [some (vr (7)), some (vr (e)), some (vr (5)), some (vi (((x : Nat) : Int))), none] [] (S nw nx g, 78 + gn, (wr c 8 (cN f))) B0 post := by
  intro k
  induction k with
  | zero =>
    intro x f hrel  K
    have h60 := GV_N hV
    simp only [isF] at K
    refine g_X0_prepare_15 he hE hV  ?_
    refine ⟨?_, ?_, ⟨fun q => ?_, fun q => ⟨?_, ⟨?_, ⟨?_, ⟨?_, ⟨?_, ⟨?_, ?_⟩⟩⟩⟩⟩⟩⟩⟩
    all_goals first | omega | exact K | (exfalso; omega) | (simp only [*, if_true, if_false, ite_true, ite_false, Bool.false_eq_true, and_true, true_and, and_false, false_and, and_self, or_true, true_or, or_false, false_or, Bool.and_true, Bool.and_false, Bool.true_and, Bool.false_and, decide_true, decide_false, eq_self, not_true_eq_false, not_false_eq_true, ne_eq, reduceCtorEq] at K; exact K)
  | succ k ih =>
    intro x f hrel  K
    have h60 := GV_N hV
    simp only [isF] at K
    refine g_X0_prepare_15 he hE hV  ?_
    refine ⟨?_, ?_, ⟨fun q => ?_, fun q => ⟨?_, ⟨?_, ⟨?_, ⟨?_, ⟨?_, ⟨?_, ?_⟩⟩⟩⟩⟩⟩⟩⟩
    all_goals first | omega | assumption | (exfalso; omega) | (simp only [*, if_true, if_false, ite_true, ite_false, Bool.false_eq_true, and_true, true_and, and_false, false_and, and_self, or_true, true_or, or_false, false_or, Bool.and_true, Bool.and_false, Bool.true_and, Bool.false_and, decide_true, decide_false, eq_self, not_true_eq_false, not_false_eq_true, ne_eq, reduceCtorEq] at K; first | exact K | exact ih _ _ (by omega)  K) | exact ih _ _ (by omega)  K

set_option maxHeartbeats 2000000 in
set_option maxRecDepth 20000 in
theorem g_X0_prepare_0 {G : GG} {j nw nx gn : Nat} {g : Nat → Sh} {c : Nat → Nat → Int} {post : Option AV → AM → Prop} {e : Nat} (he : e = 21 ∨ e = 35)  (hv : (-2147483648 ≤ c 7 1 ∧ c 7 1 < 2147483648) ∧ (((c 7 1 = 0) → SW G (j + 3) mX0_prepare 15 [some (vr (7)), some (vr (e)), some (vr (5)), some (vi (0)), none] [] (S nw nx g, 78 + gn, (up2 c 7 1 1)) B0 post) ∧ ((¬ (c 7 1 = 0)) → post none (S nw nx g, 78 + gn, c)))) :
    SW G (j + 3) mX0_prepare 0 [some (vr (7)), some (vr (e)), some (vr (5)), none, none] [] (S nw nx g, 78 + gn, c) B0 post := by
  refine sw_aload_n (dX0_prepare_0.at 0 rfl) rfl rfl ?_
  refine sw_getI (dX0_prepare_0.at 1 rfl) fp_X0_15 (S_lt 7 (by decide)) (S_7 nw nx g) rfl ?_
  refine sw_if_eq (tgt := 8) (dX0_prepare_0.at 2 rfl) (by decide) hv.1 (fun q => ?_) (fun q => ?_)
  · replace hv := hv.2.1 q
    refine sw_aload_n (dX0_prepare_0.at 4 rfl) rfl rfl ?_
    refine sw_iconst (dX0_prepare_0.at 5 rfl) ?_
    refine sw_putZ (dX0_prepare_0.at 6 rfl) fp_X0_15 (S_lt 7 (by decide)) (S_7 nw nx g) rfl (by decide) ?_
    refine sw_iconst (dX0_prepare_0.at 7 rfl) ?_
    refine sw_istore_n (lo' := [some (vr (7)), some (vr (e)), some (vr (5)), some (vi (0)), none]) (dX0_prepare_0.at 8 rfl) rfl (by decide) rfl ?_
    exact hv
  · replace hv := hv.2.2 q
    exact sw_vret (dX0_prepare_0.at 3 rfl) rfl (Nat.le_refl _) (Nat.le_refl _) hv

def RC (P : GD) (T : PT) (kd x : Nat) : Nat := RCs P (muT P T) (gN P) kd x
/-- the cells are not found yet, or rightly -/
def CR (P : GD) (T : PT) (c : Nat → Nat → Int) : Prop := ∃ f : Nat → Nat, c 8 = cN f ∧ (c 7 1 = 0 ∨ (c 7 1 = 1 ∧ ∀ kd x, kd < 3 → x < gN P → f (kd * 60 + x) = RC P T kd x))
theorem edB_cong {P : GD} {mu mu2 : Nat → Nat → Int} {n : Nat} (h : ∀ a b, a < n → b < n → mu a b = mu2 a b) (kd x : Nat) (hx : x < n) : RCs P mu n kd x = RCs P mu2 n kd x := by
  have hx0 : x = 0 + x := by omega
  rw [RCs, RCs, hx0]
  refine clM_ag n 0 _ _ (by omega) (fun y hy => ?_) x hx
  apply Nat.eq_of_testBit_eq
  intro t
  rw [bitsU_bit, bitsU_bit]
  by_cases ht : t < n
  · simp only [edB, Nat.zero_add]
    rw [h (min y t) (max y t) (by omega) (by omega)]
  · simp [ht]
set_option maxHeartbeats 2000000 in
theorem c_X0_prepare {G : GG} {j nw nx gn : Nat} {g : Nat → Sh} {c : Nat → Nat → Int} {post : Option AV → AM → Prop} {P : GD} {T : PT} {e : Nat} (he : e = 21 ∨ e = 35) (hE : EL c e P) (hV : GV P) (hT : HT P T) (hA : AT P T (gN P) (c 6)) (hC : CR P T c) (K : ∀ c2 : Nat → Nat → Int, (∀ a, a ≠ 7 → a ≠ 8 → c2 a = c a) ∧ c2 7 1 = 1 ∧ CR P T c2 → post none (S nw nx g, 78 + gn, c2)) : SM G (j + 4) mX0_prepare [vr 7, vr e, vr 5] (S nw nx g, 78 + gn, c) 0 0 post := by
  refine sm_of wX0_prepare rfl (Nat.le_of_ble_eq_true rfl) ?_
  have h60 := GV_N hV
  obtain ⟨f, hf, hC⟩ := hC
  refine g_X0_prepare_0 he ?_
  rcases hC with h | h
  · have ec : wr (up2 c 7 1 1) 8 (cN f) = up2 c 7 1 1 := by
      have := wr_self (up2 c 7 1 1) 8
      rw [show up2 c 7 1 1 8 = c 8 from up2_off (by decide), hf] at this
      exact this
    have hm : ∀ a b, a < gN P → b < gN P → -2147483648 ≤ muG P (c 6) a b ∧ muG P (c 6) a b < 2147483648 := by
      intro a b ha hb
      rw [muG_T hV hA ha hb, muT]
      split
      · have := (hV.2.2.1 b hb).1
        have := hT.2.2 a b ((gL P b - gL P a - 1) / 2) ha hb (by omega)
        omega
      · omega
    have K2 := K (wr (up2 c 7 1 1) 8 (cN (ceF P (muG P (c 6)) (gN P) f))) ⟨fun a h1 h2 => by rw [wr_offR h2]; exact up2_off h1, by rw [wr_off (by decide)]; exact up2_eq _ _ _ _, _, wr_at _ _ _, Or.inr ⟨by rw [wr_off (by decide)]; exact up2_eq _ _ _ _, fun kd x hk hx => by
      rw [ceF_RC h60 f kd x hk hx, RC]
      exact edB_cong (fun a b ha hb => muG_T hV hA ha hb) kd x hx⟩⟩
    have h9 := lp_X0_prepare_15 (c := up2 c 7 1 1) (G := G) (j := j) (nw := nw) (nx := nx) (gn := gn) (g := g) (post := post) he (EL_up hE he (by decide)) hV (gN P) 0 f (by omega) (lp_X0_prepare_61 (c := up2 c 7 1 1) he (EL_up hE he (by decide)) hV (by rw [show up2 c 7 1 1 6 = c 6 from up2_off (by decide)]; exact hm) (gN P) 0 _ (by omega) (isF_BF h60) (by rw [show up2 c 7 1 1 6 = c 6 from up2_off (by decide)]; exact K2))
    rw [ec] at h9
    refine ⟨?_, ⟨fun q => ?_, fun q => ?_⟩⟩
    all_goals first | omega | exact h9 | (exfalso; omega)
  · have h9 := K c ⟨fun _ _ _ => rfl, h.1, f, hf, Or.inr h⟩
    refine ⟨?_, ⟨fun q => ?_, fun q => ?_⟩⟩
    all_goals first | omega | exact h9 | (exfalso; omega)

