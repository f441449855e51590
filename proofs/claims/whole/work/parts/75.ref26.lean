def sRe (P : GD) (f : Nat → Int) (z : Nat) : Nat → Int
  | 0 => 0
  | t + 1 => sRe P f z t + (if gCov P t z then f t else 0)
def wcB (P : GD) (e : Nat) : Nat → Nat → Int
  | 0 => fun _ => 0
  | n + 1 => fun i => if i = n then (if n = e then 1 else 0) + sRe P (wcB P e n) n n else wcB P e n i
theorem sRe_cong {P : GD} {f f2 : Nat → Int} {z : Nat} : ∀ n, (∀ i, i < n → f i = f2 i) → sRe P f z n = sRe P f2 z n := by
  intro n
  induction n with
  | zero => intro _; rfl
  | succ n ih => intro h; rw [sRe, sRe, ih (fun i hi => h i (by omega)), h n (by omega)]
theorem wcB_st {P : GD} {e : Nat} : ∀ d n i, i < n → wcB P e (n + d) i = wcB P e n i := by
  intro d
  induction d with
  | zero => intro n i _; rfl
  | succ d ih =>
    intro n i hi
    rw [show n + (d + 1) = n + d + 1 by omega, wcB]
    show (if _ then _ else _) = _
    rw [if_neg (by omega)]
    exact ih n i hi
def wcW (P : GD) (e z : Nat) : Int := wcB P e (z + 1) z
theorem wcW_eq {P : GD} {e z : Nat} : wcW P e z = (if z = e then 1 else 0) + sRe P (wcW P e) z z := by
  rw [wcW, wcB]
  show (if _ then _ else _) = _
  rw [if_pos rfl, sRe_cong z (fun i hi => ?_)]
  rw [wcW]
  have := wcB_st (P := P) (e := e) (z - (i + 1)) (i + 1) i (by omega)
  rwa [show i + 1 + (z - (i + 1)) = z by omega] at this
def hBt (P : GD) : Prop := (∀ z, z < gN P → (gD P z).testBit z = true) ∧ (∀ x y z, x < gN P → y < gN P → z < gN P → (gD P y).testBit x = true → (gD P z).testBit y = true → (gD P z).testBit x = true) ∧ (∀ y z, y < gN P → z < gN P → (gD P z).testBit y = true → y ≤ z)
theorem sRe_0 {P : GD} {f : Nat → Int} {z : Nat} : ∀ n, (∀ t, t < n → gCov P t z = true → f t = 0) → sRe P f z n = 0 := by
  intro n
  induction n with
  | zero => intro _; rfl
  | succ n ih =>
    intro h
    rw [sRe, ih (fun t ht => h t (by omega))]
    split
    · rename_i hc; rw [h n (by omega) hc]; rfl
    · rfl
theorem cov_b {P : GD} {t z : Nat} (h : gCov P t z = true) : (gD P z).testBit t = true := by
  rw [gCov, Bool.and_eq_true] at h; exact h.2
theorem wcW_0 {P : GD} (hb : hBt P) {e : Nat} (he : e < gN P) : ∀ n z, z < n → z < gN P → (gD P z).testBit e = false → wcW P e z = 0 := by
  intro n
  induction n with
  | zero => intro z h; omega
  | succ n ih =>
    intro z hz hN hd
    have hne : z ≠ e := fun h => by rw [h, hb.1 e he] at hd; exact absurd hd (by decide)
    rw [wcW_eq, if_neg hne, sRe_0 z (fun t ht hc => ?_)]
    · rfl
    · refine ih t (by omega) (by omega) ?_
      cases h : (gD P t).testBit e with
      | false => rfl
      | true => rw [hb.2.1 e t z he (by omega) hN h (cov_b hc)] at hd; exact absurd hd (by decide)
theorem chF_off {P : GD} {T x : Nat} : ∀ d i, x + d < i → chF P T x d i = 0 := by
  intro d
  induction d with
  | zero => intro i hi; rw [chF]; show (if _ then _ else _) = _; rw [if_neg (by omega)]
  | succ d ih =>
    intro i hi
    rw [chF]
    split
    · show (if _ then _ else _) = _
      rw [if_neg (by omega)]; exact ih i (by omega)
    · exact ih i (by omega)
theorem chF_st {P : GD} {T x : Nat} : ∀ k d i, i ≤ x + d → chF P T x (d + k) i = chF P T x d i := by
  intro k
  induction k with
  | zero => intro d i _; rfl
  | succ k ih =>
    intro d i hi
    rw [show d + (k + 1) = d + k + 1 by omega, chF]
    split
    · show (if _ then _ else _) = _
      rw [if_neg (by omega)]; exact ih d i hi
    · exact ih d i hi
theorem sCov_re {P : GD} {T z : Nat} {f w : Nat → Int} : ∀ n, (∀ t, t < n → gCov P t z = true → (if T.testBit t then f t else 0) = w t) → sCov P T f z n = sRe P w z n := by
  intro n
  induction n with
  | zero => intro _; rfl
  | succ n ih =>
    intro h
    rw [sCov, sRe, ih (fun t ht => h t (by omega))]
    by_cases hc : gCov P n z = true
    · have := h n (by omega) hc
      rw [hc, Bool.and_true, if_pos rfl]
      by_cases ht : T.testBit n = true
      · rw [if_pos ht] at this ⊢; rw [this]
      · rw [if_neg ht] at this ⊢; rw [← this, Int.add_zero]
    · rw [if_neg hc]
      have : ¬ ((T.testBit n && gCov P n z) = true) := fun q => hc (by rw [Bool.and_eq_true] at q; exact q.2)
      rw [if_neg this, Int.add_zero]
theorem ch_eq {P : GD} (hb : hBt P) {x y : Nat} (hx : x < gN P) (hy : y < gN P) : chF P (bitsU (pBt P x y) (gN P)) x (y - x) y = wcW P x y := by
  have tb : ∀ z, z < gN P → ((bitsU (pBt P x y) (gN P)).testBit z = true ↔ (gD P z).testBit x = true ∧ (gD P y).testBit z = true) := by
    intro z hz
    rw [bitsU_bit, pBt, decide_eq_true hz, Bool.true_and, Bool.and_eq_true]
  have main : ∀ d, x + d < gN P → ∀ i, i ≤ x + d → (bitsU (pBt P x y) (gN P)).testBit i = true → chF P (bitsU (pBt P x y) (gN P)) x d i = wcW P x i := by
    intro d
    induction d with
    | zero =>
      intro hd i hi ht
      have h1 := (tb i (by omega)).mp ht
      have h2 := hb.2.2 x i hx (by omega) h1.1
      have e : i = x := by omega
      subst e
      rw [chF]
      show (if _ then _ else _) = _
      rw [if_pos rfl, wcW_eq, if_pos rfl, sRe_0 i (fun t ht2 hc => ?_)]
      · rfl
      · refine wcW_0 hb hx (t + 1) t (by omega) (by omega) ?_
        cases h : (gD P t).testBit i with
        | false => rfl
        | true => have := hb.2.2 i t hx (by omega) h; omega
    | succ d ih =>
      intro hd i hi ht
      rw [chF]
      by_cases e : i = x + 1 + d
      · subst e
        rw [if_pos ht]
        show (if _ then _ else _) = _
        have h1 := (tb _ (by omega)).mp ht
        rw [if_pos rfl, wcW_eq, if_neg (by omega), Int.zero_add]
        refine sCov_re _ (fun t ht2 hc => ?_)
        by_cases hT : (bitsU (pBt P x y) (gN P)).testBit t = true
        · rw [if_pos hT]; exact ih (by omega) t (by omega) hT
        · rw [if_neg hT]
          refine (wcW_0 hb hx (t + 1) t (by omega) (by omega) ?_).symm
          cases h : (gD P t).testBit x with
          | false => rfl
          | true => exact absurd ((tb t (by omega)).mpr ⟨h, hb.2.1 t (x + 1 + d) y (by omega) (by omega) hy (cov_b hc) h1.2⟩) hT
      · split
        · show (if _ then _ else _) = _
          rw [if_neg e]; exact ih (by omega) i (by omega) ht
        · exact ih (by omega) i (by omega) ht
  by_cases hxy : (gD P y).testBit x = true
  · have hle := hb.2.2 x y hx hy hxy
    exact main (y - x) (by omega) y (by omega) ((tb y hy).mpr ⟨hxy, hb.1 y hy⟩)
  · have hf : (gD P y).testBit x = false := by simpa using hxy
    rw [wcW_0 hb hx (y + 1) y (by omega) hy hf]
    have hne : y ≠ x := fun h => by rw [h, hb.1 x hx] at hf; exact absurd hf (by decide)
    have z0 : ∀ d i, i ≠ x → (∀ z, z < gN P → (bitsU (pBt P x y) (gN P)).testBit z = false) → x + d < gN P → chF P (bitsU (pBt P x y) (gN P)) x d i = 0 := by
      intro d
      induction d with
      | zero => intro i hi _ _; rw [chF]; show (if _ then _ else _) = _; rw [if_neg hi]
      | succ d ih => intro i hi ht hN; rw [chF, if_neg (by rw [ht _ (by omega)]; decide)]; exact ih i hi ht (by omega)
    refine z0 _ y hne (fun z hz => ?_) (by omega)
    cases h : (bitsU (pBt P x y) (gN P)).testBit z with
    | false => rfl
    | true =>
      have := (tb z hz).mp h
      exact absurd (hb.2.1 x z y hx hz hy this.1 this.2) hxy
set_option maxHeartbeats 2000000 in
set_option maxRecDepth 20000 in
theorem g_X9_chains_42 {G : GG} {j nw nx gn : Nat} {g : Nat → Sh} {c : Nat → Nat → Int} {post : Option AV → AM → Prop} {e : Nat} {o : Nat} {P : GD} {T : PT} {F : Nat → Int} {z : Nat} {y : Nat} (hM : ML c P) (hV : GV P) (hC : GC P) (hD : PD P T c)  (hv : (y < 2147483648) ∧ (z < 2147483648) ∧ (((z ≤ y) → SW G (j + 5) mX9_chains 15 [some (vr (49)), some (vi (((e : Nat) : Int))), some (vi (((o : Nat) : Int))), some (vi (((z + 1 : Nat) : Int))), none] [] (S nw nx g, 78 + gn, (wr c 67 F)) B0 post) ∧ ((¬ (z ≤ y)) → (z < 60) ∧ ((y < gN P) ∧ (z < gN P) ∧ (((((gD P z).testBit y) = false) → (z < 60) ∧ (SW G (j + 5) mX9_chains 42 [some (vr (49)), some (vi (((e : Nat) : Int))), some (vi (((o : Nat) : Int))), some (vi (((z : Nat) : Int))), some (vi (((y + 1 : Nat) : Int)))] [] (S nw nx g, 78 + gn, (wr c 67 (u1 F z ((F z) + 0)))) B0 post)) ∧ ((((gD P z).testBit y) = true) → (y < gN P) ∧ ((z < gN P) ∧ ((gL P y < 2147483648) ∧ (-2147483648 ≤ ((gL P z : Nat) : Int) - 1 ∧ ((gL P z : Nat) : Int) - 1 < 2147483648) ∧ (((((gL P y : Nat) : Int) ≠ ((gL P z : Nat) : Int) - 1) → (z < 60) ∧ (SW G (j + 5) mX9_chains 42 [some (vr (49)), some (vi (((e : Nat) : Int))), some (vi (((o : Nat) : Int))), some (vi (((z : Nat) : Int))), some (vi (((y + 1 : Nat) : Int)))] [] (S nw nx g, 78 + gn, (wr c 67 (u1 F z ((F z) + 0)))) B0 post)) ∧ ((((gL P y : Nat) : Int) = ((gL P z : Nat) : Int) - 1) → (y < 60) ∧ ((z < 60) ∧ (SW G (j + 5) mX9_chains 42 [some (vr (49)), some (vi (((e : Nat) : Int))), some (vi (((o : Nat) : Int))), some (vi (((z : Nat) : Int))), some (vi (((y + 1 : Nat) : Int)))] [] (S nw nx g, 78 + gn, (wr c 67 (u1 F z ((F z) + (F y))))) B0 post)))))))))))) :
    SW G (j + 5) mX9_chains 42 [some (vr (49)), some (vi (((e : Nat) : Int))), some (vi (((o : Nat) : Int))), some (vi (((z : Nat) : Int))), some (vi (((y : Nat) : Int)))] [] (S nw nx g, 78 + gn, (wr c 67 F)) B0 post := by
  refine sw_iload (dX9_chains_0.at 25 rfl) rfl ?_
  refine sw_iload_n (dX9_chains_0.at 26 rfl) rfl rfl ?_
  refine sw_icmpN_ge y z (tgt := 102) (dX9_chains_0.at 27 rfl) (by decide) hv.1 hv.2.1 (fun q => ?_) (fun q => ?_)
  · replace hv := hv.2.2.1 q
    refine sw_iinc (lo' := [some (vr (49)), some (vi (((e : Nat) : Int))), some (vi (((o : Nat) : Int))), some (vi (((z + 1 : Nat) : Int))), some (vi (((y : Nat) : Int)))]) (dX9_chains_1.at 9 rfl) rfl (by decide) rfl ?_
    refine sw_goto (tgt := 15) (dX9_chains_1.at 10 rfl) (by decide) ?_
    exact sw_mask (bs := [true, true, true, true, false]) hv
  · replace hv := hv.2.2.2 q
    refine sw_aload_n (dX9_chains_0.at 28 rfl) rfl rfl ?_
    refine sw_getR (dX9_chains_0.at 29 rfl) fp_X9_67 (S_lt 49 (by decide)) (S_49 nw nx g) rfl rfl ?_
    refine sw_iload_n (dX9_chains_0.at 30 rfl) rfl rfl ?_
    refine sw_dup2 (dX9_chains_0.at 31 rfl) (fun _ h => by cases h) (fun _ h => by cases h) ?_
    refine sw_laldN z (w := F z) (dX9_chains_0.at 32 rfl) (S_lt 67 (by decide)) (S_67 nw nx g) (by decide) hv.1 rfl ?_
    replace hv := hv.2
    refine sw_aload_n (dX9_chains_0.at 33 rfl) rfl rfl ?_
    refine sw_iload (dX9_chains_0.at 34 rfl) rfl ?_
    refine sw_iload_n (dX9_chains_0.at 35 rfl) rfl rfl ?_
    refine sw_callV (B' := B0) (As := [vi (((y : Nat) : Int)), vi (((z : Nat) : Int))]) (mc := 0) (ms := 0) (dX9_chains_0.at 36 rfl) lk_X9_311 (S_lt 49 (by decide)) (S_49 nw nx g) rfl rfl (Nat.le_of_ble_eq_true rfl) rfl (Nat.le_refl _) (Nat.le_refl _) ?_
    refine c_X9_areBelow (v := y) (w := z) (j := j + 4) (ML_SC hM (SC_wr SC_rf (a := 67) (f := F) (by decide))) hV hC (PD_SC hD (SC_wr SC_rf (a := 67) (f := F) (by decide))) hv.1 hv.2.1 ?_
    replace hv := hv.2.2
    refine sw_if_eq (tgt := 93) (dX9_chains_0.at 37 rfl) (by decide) (bz_rng _) (fun q => ?_) (fun q => ?_)
    · replace hv := hv.1 (bz_0 q)
      refine sw_lconst (z := 0) (dX9_chains_1.at 4 rfl) (by decide) ?_
      refine sw_ladd (dX9_chains_1.at 5 rfl) ?_
      refine sw_lastN z (dX9_chains_1.at 6 rfl) (S_lt 67 (by decide)) (S_67 nw nx g) (by decide) hv.1 ?_
      refine SW.cg (M' := (S nw nx g, 78 + gn, (wr c 67 (u1 F z ((F z) + 0))))) (congrArg (fun m => (S nw nx g, 78 + gn, m)) (wr_up c 67 F z ((F z) + 0))) ?_
      replace hv := hv.2
      refine sw_iinc (lo' := [some (vr (49)), some (vi (((e : Nat) : Int))), some (vi (((o : Nat) : Int))), some (vi (((z : Nat) : Int))), some (vi (((y + 1 : Nat) : Int)))]) (dX9_chains_1.at 7 rfl) rfl (by decide) rfl ?_
      refine sw_goto (tgt := 42) (dX9_chains_1.at 8 rfl) (by decide) ?_
      exact hv
    · replace hv := hv.2 (bz_n0 q)
      refine sw_aload_n (dX9_chains_0.at 38 rfl) rfl rfl ?_
      refine sw_getR (dX9_chains_0.at 39 rfl) fp_X9_32 (S_lt 49 (by decide)) (S_49 nw nx g) rfl rfl ?_
      refine sw_iload (dX9_chains_0.at 40 rfl) rfl ?_
      refine sw_ialdN y (w := ((gL P y : Nat) : Int)) (dX9_chains_0.at 41 rfl) (S_lt 56 (by decide)) (S_56 nw nx g) (by decide) (GV_lt hV hv.1) (ML_L (ML_SC hM (SC_wr SC_rf (a := 67) (f := F) (by decide))) hv.1) ?_
      replace hv := hv.2
      refine sw_aload_n (dX9_chains_0.at 42 rfl) rfl rfl ?_
      refine sw_getR (dX9_chains_0.at 43 rfl) fp_X9_32 (S_lt 49 (by decide)) (S_49 nw nx g) rfl rfl ?_
      refine sw_iload_n (dX9_chains_0.at 44 rfl) rfl rfl ?_
      refine sw_ialdN z (w := ((gL P z : Nat) : Int)) (dX9_chains_0.at 45 rfl) (S_lt 56 (by decide)) (S_56 nw nx g) (by decide) (GV_lt hV hv.1) (ML_L (ML_SC hM (SC_wr SC_rf (a := 67) (f := F) (by decide))) hv.1) ?_
      replace hv := hv.2
      refine sw_iconst (dX9_chains_0.at 46 rfl) ?_
      refine sw_isub (dX9_chains_0.at 47 rfl) ?_
      refine sw_icmp_ne (tgt := 93) (dX9_chains_0.at 48 rfl) (by decide) (nrng hv.1) hv.2.1 (fun q => ?_) (fun q => ?_)
      · replace hv := hv.2.2.1 q
        refine sw_lconst (z := 0) (dX9_chains_1.at 4 rfl) (by decide) ?_
        refine sw_ladd (dX9_chains_1.at 5 rfl) ?_
        refine sw_lastN z (dX9_chains_1.at 6 rfl) (S_lt 67 (by decide)) (S_67 nw nx g) (by decide) hv.1 ?_
        refine SW.cg (M' := (S nw nx g, 78 + gn, (wr c 67 (u1 F z ((F z) + 0))))) (congrArg (fun m => (S nw nx g, 78 + gn, m)) (wr_up c 67 F z ((F z) + 0))) ?_
        replace hv := hv.2
        refine sw_iinc (lo' := [some (vr (49)), some (vi (((e : Nat) : Int))), some (vi (((o : Nat) : Int))), some (vi (((z : Nat) : Int))), some (vi (((y + 1 : Nat) : Int)))]) (dX9_chains_1.at 7 rfl) rfl (by decide) rfl ?_
        refine sw_goto (tgt := 42) (dX9_chains_1.at 8 rfl) (by decide) ?_
        exact hv
      · replace hv := hv.2.2.2 q
        refine sw_aload_n (dX9_chains_0.at 49 rfl) rfl rfl ?_
        refine sw_getR (dX9_chains_1.at 0 rfl) fp_X9_67 (S_lt 49 (by decide)) (S_49 nw nx g) rfl rfl ?_
        refine sw_iload (dX9_chains_1.at 1 rfl) rfl ?_
        refine sw_laldN y (w := F y) (dX9_chains_1.at 2 rfl) (S_lt 67 (by decide)) (S_67 nw nx g) (by decide) hv.1 rfl ?_
        replace hv := hv.2
        refine sw_goto (tgt := 94) (dX9_chains_1.at 3 rfl) (by decide) ?_
        refine sw_ladd (dX9_chains_1.at 5 rfl) ?_
        refine sw_lastN z (dX9_chains_1.at 6 rfl) (S_lt 67 (by decide)) (S_67 nw nx g) (by decide) hv.1 ?_
        refine SW.cg (M' := (S nw nx g, 78 + gn, (wr c 67 (u1 F z ((F z) + (F y)))))) (congrArg (fun m => (S nw nx g, 78 + gn, m)) (wr_up c 67 F z ((F z) + (F y)))) ?_
        replace hv := hv.2
        refine sw_iinc (lo' := [some (vr (49)), some (vi (((e : Nat) : Int))), some (vi (((o : Nat) : Int))), some (vi (((z : Nat) : Int))), some (vi (((y + 1 : Nat) : Int)))]) (dX9_chains_1.at 7 rfl) rfl (by decide) rfl ?_
        refine sw_goto (tgt := 42) (dX9_chains_1.at 8 rfl) (by decide) ?_
        exact hv

set_option maxHeartbeats 2000000 in
set_option maxRecDepth 20000 in
theorem g_X9_chains_15 {G : GG} {j nw nx gn : Nat} {g : Nat → Sh} {c : Nat → Nat → Int} {post : Option AV → AM → Prop} {e : Nat} {o : Nat} {P : GD} {F : Nat → Int} {z : Nat} (hM : ML c P) (hV : GV P)  (hv : (z < 2147483648) ∧ (gN P < 2147483648) ∧ (((gN P ≤ z) → (o < 60) ∧ (post (some (vl (F o))) (S nw nx g, 78 + gn, (wr c 67 F)))) ∧ ((¬ (gN P ≤ z)) → (z < 2147483648) ∧ (e < 2147483648) ∧ (((z ≠ e) → (z < 60) ∧ (SW G (j + 5) mX9_chains 42 [some (vr (49)), some (vi (((e : Nat) : Int))), some (vi (((o : Nat) : Int))), some (vi (((z : Nat) : Int))), some (vi (0))] [] (S nw nx g, 78 + gn, (wr c 67 (u1 F z 0))) B0 post)) ∧ ((z = e) → (z < 60) ∧ (SW G (j + 5) mX9_chains 42 [some (vr (49)), some (vi (((e : Nat) : Int))), some (vi (((o : Nat) : Int))), some (vi (((z : Nat) : Int))), some (vi (0))] [] (S nw nx g, 78 + gn, (wr c 67 (u1 F z 1))) B0 post)))))) :
    SW G (j + 5) mX9_chains 15 [some (vr (49)), some (vi (((e : Nat) : Int))), some (vi (((o : Nat) : Int))), some (vi (((z : Nat) : Int))), none] [] (S nw nx g, 78 + gn, (wr c 67 F)) B0 post := by
  refine sw_iload_n (dX9_chains_0.at 9 rfl) rfl rfl ?_
  refine sw_aload_n (dX9_chains_0.at 10 rfl) rfl rfl ?_
  refine sw_getIE (w := ((gN P : Nat) : Int)) (dX9_chains_0.at 11 rfl) fp_X9_196 (S_lt 49 (by decide)) (S_49 nw nx g) rfl ((wr_off (c := c) (a := 67) (f := F) (i := 49) (k := 22) (by decide)).trans hM.1.2.1) ?_
  refine sw_icmpN_ge z (gN P) (tgt := 108) (dX9_chains_0.at 12 rfl) (by decide) hv.1 hv.2.1 (fun q => ?_) (fun q => ?_)
  · replace hv := hv.2.2.1 q
    refine sw_aload_n (dX9_chains_1.at 11 rfl) rfl rfl ?_
    refine sw_getR (dX9_chains_1.at 12 rfl) fp_X9_67 (S_lt 49 (by decide)) (S_49 nw nx g) rfl rfl ?_
    refine sw_iload_n (dX9_chains_1.at 13 rfl) rfl rfl ?_
    refine sw_laldN o (w := F o) (dX9_chains_1.at 14 rfl) (S_lt 67 (by decide)) (S_67 nw nx g) (by decide) hv.1 rfl ?_
    replace hv := hv.2
    exact sw_lret (dX9_chains_1.at 15 rfl) rfl (Nat.le_refl _) (Nat.le_refl _) hv
  · replace hv := hv.2.2.2 q
    refine sw_aload_n (dX9_chains_0.at 13 rfl) rfl rfl ?_
    refine sw_getR (dX9_chains_0.at 14 rfl) fp_X9_67 (S_lt 49 (by decide)) (S_49 nw nx g) rfl rfl ?_
    refine sw_iload_n (dX9_chains_0.at 15 rfl) rfl rfl ?_
    refine sw_iload_n (dX9_chains_0.at 16 rfl) rfl rfl ?_
    refine sw_iload_n (dX9_chains_0.at 17 rfl) rfl rfl ?_
    refine sw_icmpN_ne z e (tgt := 37) (dX9_chains_0.at 18 rfl) (by decide) hv.1 hv.2.1 (fun q => ?_) (fun q => ?_)
    · replace hv := hv.2.2.1 q
      refine sw_lconst (z := 0) (dX9_chains_0.at 21 rfl) (by decide) ?_
      refine sw_lastN z (dX9_chains_0.at 22 rfl) (S_lt 67 (by decide)) (S_67 nw nx g) (by decide) hv.1 ?_
      refine SW.cg (M' := (S nw nx g, 78 + gn, (wr c 67 (u1 F z 0)))) (congrArg (fun m => (S nw nx g, 78 + gn, m)) (wr_up c 67 F z 0)) ?_
      replace hv := hv.2
      refine sw_iconst (dX9_chains_0.at 23 rfl) ?_
      refine sw_istore (lo' := [some (vr (49)), some (vi (((e : Nat) : Int))), some (vi (((o : Nat) : Int))), some (vi (((z : Nat) : Int))), some (vi (0))]) (dX9_chains_0.at 24 rfl) (by decide) rfl ?_
      exact hv
    · replace hv := hv.2.2.2 q
      refine sw_lconst (z := 1) (dX9_chains_0.at 19 rfl) (by decide) ?_
      refine sw_goto (tgt := 38) (dX9_chains_0.at 20 rfl) (by decide) ?_
      refine sw_lastN z (dX9_chains_0.at 22 rfl) (S_lt 67 (by decide)) (S_67 nw nx g) (by decide) hv.1 ?_
      refine SW.cg (M' := (S nw nx g, 78 + gn, (wr c 67 (u1 F z 1)))) (congrArg (fun m => (S nw nx g, 78 + gn, m)) (wr_up c 67 F z 1)) ?_
      replace hv := hv.2
      refine sw_iconst (dX9_chains_0.at 23 rfl) ?_
      refine sw_istore (lo' := [some (vr (49)), some (vi (((e : Nat) : Int))), some (vi (((o : Nat) : Int))), some (vi (((z : Nat) : Int))), some (vi (0))]) (dX9_chains_0.at 24 rfl) (by decide) rfl ?_
      exact hv

set_option maxHeartbeats 4000000 in
theorem lc_42 {G : GG} {j nw nx gn : Nat} {g : Nat → Sh} {c : Nat → Nat → Int} {post : Option AV → AM → Prop} {P : GD} {T : PT} {e o z : Nat} (hM : ML c P) (hV : GV P) (hC : GC P) (hD : PD P T c) (hz : z < gN P) (K : ∀ F : Nat → Int, (∀ q, q < z + 1 → F q = wcW P e q) → SW G (j + 5) mX9_chains 15 [some (vr (49)), some (vi (((e : Nat) : Int))), some (vi (((o : Nat) : Int))), some (vi (((z + 1 : Nat) : Int))), none] [] (S nw nx g, 78 + gn, (wr c 67 F)) B0 post) : ∀ (k y : Nat) (F : Nat → Int), y + k = z → (∀ q, q < z → F q = wcW P e q) → F z = (if z = e then 1 else 0) + sRe P (wcW P e) z y → SW G (j + 5) mX9_chains 42 [some (vr (49)), some (vi (((e : Nat) : Int))), some (vi (((o : Nat) : Int))), some (vi (((z : Nat) : Int))), some (vi (((y : Nat) : Int)))] [] (S nw nx g, 78 + gn, (wr c 67 F)) B0 post := by
  have h60 := GV_N hV
  intro k
  induction k with
  | zero =>
    intro y F hy hF hFz
    have ey : y = z := by omega
    subst ey
    have K2 := K F (fun q hq => by
      by_cases e1 : q = y
      · rw [e1, hFz, ← wcW_eq]
      · exact hF q (by omega))
    refine g_X9_chains_42 hM hV hC hD ?_
    refine ⟨?_, ?_, ⟨fun q => ?_, fun q => ⟨?_, ⟨?_, ?_, ⟨fun q => ⟨?_, ?_⟩, fun q => ⟨?_, ⟨?_, ⟨?_, ?_, ⟨fun q => ⟨?_, ?_⟩, fun q => ⟨?_, ⟨?_, ?_⟩⟩⟩⟩⟩⟩⟩⟩⟩⟩⟩
    all_goals first | omega | exact K2 | (exfalso; omega)
  | succ k ih =>
    intro y F hy hF hFz
    have l1 := (hV.2.2.1 z hz).1
    have l2 := (hV.2.2.1 y (by omega)).1
    have nx9 := fun (v : Int) (hv : v = F z + (if gCov P y z then wcW P e y else 0)) => ih (y + 1) (u1 F z v) (by omega) (fun q hq => by rw [u1_ne (by omega)]; exact hF q hq) (by rw [u1_eq, hv, hFz, sRe, Int.add_assoc])
    have nxT : gCov P y z = true → _ := fun h => nx9 (F z + F y) (by rw [if_pos h, hF y (by omega)])
    have nxF : gCov P y z = false → _ := fun h => nx9 (F z + 0) (by rw [if_neg (by rw [h]; decide)])
    refine g_X9_chains_42 hM hV hC hD ?_
    refine ⟨?_, ?_, ⟨fun q => ?_, fun q => ⟨?_, ⟨?_, ?_, ⟨fun q => ⟨?_, ?_⟩, fun q => ⟨?_, ⟨?_, ⟨?_, ?_, ⟨fun q => ⟨?_, ?_⟩, fun q => ⟨?_, ⟨?_, ?_⟩⟩⟩⟩⟩⟩⟩⟩⟩⟩⟩
    all_goals first | omega | assumption | (exfalso; omega) | (refine nxT ?_; rw [gCov, decide_eq_true (by omega), Bool.true_and]; assumption) | (refine nxF ?_; rw [gCov, decide_eq_false (by omega), Bool.false_and]) | (refine nxF ?_; rw [gCov, ‹(gD P z).testBit y = false›, Bool.and_false])
set_option maxHeartbeats 4000000 in
theorem lc_15 {G : GG} {j nw nx gn : Nat} {g : Nat → Sh} {c : Nat → Nat → Int} {post : Option AV → AM → Prop} {P : GD} {T : PT} {e o : Nat} (hM : ML c P) (hV : GV P) (hC : GC P) (hD : PD P T c) (he : e < gN P) (ho : o < gN P) (K : ∀ F : Nat → Int, F o = wcW P e o → post (some (vl (F o))) (S nw nx g, 78 + gn, (wr c 67 F))) : ∀ (k z : Nat) (F : Nat → Int), z + k = gN P → (∀ q, q < z → F q = wcW P e q) → SW G (j + 5) mX9_chains 15 [some (vr (49)), some (vi (((e : Nat) : Int))), some (vi (((o : Nat) : Int))), some (vi (((z : Nat) : Int))), none] [] (S nw nx g, 78 + gn, (wr c 67 F)) B0 post := by
  have h60 := GV_N hV
  intro k
  induction k with
  | zero =>
    intro z F hz hF
    have K2 := K F (hF o (by omega))
    refine g_X9_chains_15 hM hV ?_
    refine ⟨?_, ?_, ⟨fun q => ⟨?_, ?_⟩, fun q => ⟨?_, ?_, ⟨fun q => ⟨?_, ?_⟩, fun q => ⟨?_, ?_⟩⟩⟩⟩⟩
    all_goals first | omega | exact K2 | (exfalso; omega)
  | succ k ih =>
    intro z F hz hF
    have st9 := fun (v : Int) (hv : v = if z = e then 1 else 0) => lc_42 (G := G) (j := j) (nw := nw) (nx := nx) (gn := gn) (g := g) (post := post) (o := o) hM hV hC hD (show z < gN P by omega) (fun F2 h2 => ih (z + 1) F2 (by omega) h2) z 0 (u1 F z v) (by omega) (fun q hq => by rw [u1_ne (by omega)]; exact hF q hq) (by rw [u1_eq, hv, sRe, Int.add_zero])
    refine g_X9_chains_15 hM hV ?_
    refine ⟨?_, ?_, ⟨fun q => ⟨?_, ?_⟩, fun q => ⟨?_, ?_, ⟨fun q => ⟨?_, ?_⟩, fun q => ⟨?_, ?_⟩⟩⟩⟩⟩
    all_goals first | omega | (exfalso; omega) | exact st9 1 (by rw [if_pos (by assumption)]) | exact st9 0 (by rw [if_neg (by assumption)])

set_option maxHeartbeats 2000000 in
set_option maxRecDepth 20000 in
theorem g_X9_chains_0n {G : GG} {j nw nx gn : Nat} {g : Nat → Sh} {c : Nat → Nat → Int} {post : Option AV → AM → Prop} {x : Nat} {y : Nat} {P : GD} {T : PT} (hM : ML c P) (hV : GV P) (hC : GC P) (hG : GP P T) (hR : RR P T c) (hBT : hBt P)  (hv : (x < gN P) ∧ (y < gN P) ∧ (∀ c_1 : Nat → Nat → Int, (SD c c_1 ∧ RD P T c_1) → SW G (j + 5) mX9_chains 15 [some (vr (49)), some (vi (((x : Nat) : Int))), some (vi (((y : Nat) : Int))), some (vi (0)), none] [] (S nw nx g, 78 + gn, c_1) B0 post)) :
    SW G (j + 5) mX9_chains 0 [some (vr (49)), some (vi (((x : Nat) : Int))), some (vi (((y : Nat) : Int))), none, none] [] (S nw nx g, 78 + gn, c) B0 post := by
  refine sw_aload_n (dX9_chains_0.at 0 rfl) rfl rfl ?_
  refine sw_iload_n (dX9_chains_0.at 1 rfl) rfl rfl ?_
  refine sw_iload_n (dX9_chains_0.at 2 rfl) rfl rfl ?_
  refine sw_callV (B' := B0) (As := [vi (((x : Nat) : Int)), vi (((y : Nat) : Int))]) (mc := 0) (ms := 0) (dX9_chains_0.at 3 rfl) lk_X9_308 (S_lt 49 (by decide)) (S_49 nw nx g) rfl rfl (Nat.le_of_ble_eq_true rfl) rfl (Nat.le_refl _) (Nat.le_refl _) ?_
  refine c_X9_arePairY (x := x) (y := y) (j := j + 0) hM hV hC hG hR hv.1 hv.2.1 (fun c_1 h_1 => ?_)
  replace hv := hv.2.2 c_1 h_1
  refine sw_if_ne (tgt := 13) (dX9_chains_0.at 4 rfl) (by decide) (by decide) (fun q => ?_) (fun q => ?_)
  · clear q
    refine sw_iconst (dX9_chains_0.at 7 rfl) ?_
    refine sw_istore_n (lo' := [some (vr (49)), some (vi (((x : Nat) : Int))), some (vi (((y : Nat) : Int))), some (vi (0)), none]) (dX9_chains_0.at 8 rfl) rfl (by decide) rfl ?_
    exact hv
  · exact absurd q (by decide)

set_option maxHeartbeats 2000000 in
set_option maxRecDepth 20000 in
theorem g_X9_chains_0 {G : GG} {j nw nx gn : Nat} {g : Nat → Sh} {c : Nat → Nat → Int} {post : Option AV → AM → Prop} {x : Int} {y : Int} {P : GD} {T : PT} (hM : ML c P) (hV : GV P) (hC : GC P) (hG : GP P T) (hR : RR P T c) (hBT : hBt P)  (hv : (-2147483648 ≤ x ∧ x < 2147483648) ∧ (-2147483648 ≤ y ∧ y < 2147483648) ∧ (∀ c_1 : Nat → Nat → Int, (SD c c_1 ∧ RR P T c_1) → (((decide ((0 ≤ x ∧ x < (gN P : Int)) ∧ 0 ≤ y ∧ y < (gN P : Int))) = true) → SW G (j + 5) mX9_chains 15 [some (vr (49)), some (vi (x)), some (vi (y)), some (vi (0)), none] [] (S nw nx g, 78 + gn, c_1) B0 post) ∧ (((decide ((0 ≤ x ∧ x < (gN P : Int)) ∧ 0 ≤ y ∧ y < (gN P : Int))) = false) → post (some (vl ((-2)))) (S nw nx g, 78 + gn, c_1)))) :
    SW G (j + 5) mX9_chains 0 [some (vr (49)), some (vi (x)), some (vi (y)), none, none] [] (S nw nx g, 78 + gn, c) B0 post := by
  refine sw_aload_n (dX9_chains_0.at 0 rfl) rfl rfl ?_
  refine sw_iload_n (dX9_chains_0.at 1 rfl) rfl rfl ?_
  refine sw_iload_n (dX9_chains_0.at 2 rfl) rfl rfl ?_
  refine sw_callV (B' := B0) (As := [vi (x), vi (y)]) (mc := 0) (ms := 0) (dX9_chains_0.at 3 rfl) lk_X9_308 (S_lt 49 (by decide)) (S_49 nw nx g) rfl rfl (Nat.le_of_ble_eq_true rfl) rfl (Nat.le_refl _) (Nat.le_refl _) ?_
  refine c_X9_arePairG (x := x) (y := y) (j := j + 0) hM hV hC hG hR hv.1 hv.2.1 (fun c_1 h_1 => ?_)
  replace hv := hv.2.2 c_1 h_1
  refine sw_if_ne (tgt := 13) (dX9_chains_0.at 4 rfl) (by decide) (bz_rng _) (fun q => ?_) (fun q => ?_)
  · replace hv := hv.1 (bz_1 q)
    refine sw_iconst (dX9_chains_0.at 7 rfl) ?_
    refine sw_istore_n (lo' := [some (vr (49)), some (vi (x)), some (vi (y)), some (vi (0)), none]) (dX9_chains_0.at 8 rfl) rfl (by decide) rfl ?_
    exact hv
  · replace hv := hv.2 (bz_n1 q)
    refine sw_ldc2 (z := (-2)) (dX9_chains_0.at 5 rfl) kc_X9_259 (by decide) ?_
    exact sw_lret (dX9_chains_0.at 6 rfl) rfl (Nat.le_refl _) (Nat.le_refl _) hv

set_option maxHeartbeats 4000000 in
theorem c_X9_chains {G : GG} {j nw nx gn : Nat} {g : Nat → Sh} {c : Nat → Nat → Int} {post : Option AV → AM → Prop} {P : GD} {T : PT} {x y : Int} (hM : ML c P) (hV : GV P) (hC : GC P) (hG : GP P T) (hR : RR P T c) (hBT : hBt P) (p1 : -2147483648 ≤ x ∧ x < 2147483648) (p2 : -2147483648 ≤ y ∧ y < 2147483648) (K : ∀ c2 : Nat → Nat → Int, (SD c c2 ∧ RR P T c2) → post (some (vl (q_chains P x y))) (S nw nx g, 78 + gn, c2)) : SM G (j + 6) mX9_chains [vr (49), vi (x), vi (y)] (S nw nx g, 78 + gn, c) 0 0 post := by
  refine sm_of wX9_chains rfl (Nat.le_of_ble_eq_true rfl) ?_
  have hN60 := GV_N hV
  have hR5 := GV_R hV
  by_cases hv : (0 ≤ x ∧ x < (gN P : Int)) ∧ 0 ≤ y ∧ y < (gN P : Int)
  · obtain ⟨x, rfl⟩ : ∃ n : Nat, x = (n : Int) := ⟨x.toNat, by omega⟩
    obtain ⟨y, rfl⟩ : ∃ n : Nat, y = (n : Int) := ⟨y.toNat, by omega⟩
    have e : q_chains P ((x : Nat) : Int) ((y : Nat) : Int) = chF P (bitsU (pBt P x y) (gN P)) x (y - x) y := by
      rw [q_chains, if_pos hv]
      simp only [Int.toNat_natCast]
    rw [e] at K
    have K1 : ∀ (z : Int) (c2 : Nat → Nat → Int), ((SD c c2 ∧ RR P T c2)) → z = (chF P (bitsU (pBt P x y) (gN P)) x (y - x) y) → post (some (vl z)) (S nw nx g, 78 + gn, c2) := fun z c2 h e9 => e9 ▸ K c2 h
    have hx : x < gN P := by omega
    have fx := hV.2.2.1 x hx
    have hy : y < gN P := by omega
    have fy := hV.2.2.1 y hy
    rw [ch_eq hBT hx hy] at K
    refine g_X9_chains_0n hM hV hC hG hR hBT ?_
    refine ⟨?_, ?_, fun c_1 h_1 => ?_⟩
    all_goals first | omega | assumption | (exfalso; simp only [decide_eq_true_eq, decide_eq_false_iff_not] at *; omega) | (have l9 := lc_15 (c := c_1) (G := G) (j := j) (nw := nw) (nx := nx) (gn := gn) (g := g) (post := post) (e := x) (o := y) (ML_SD hM h_1.1) hV hC h_1.2.2 hx hy (fun F hF => by rw [hF]; exact K _ ⟨SD_wr h_1.1 (by decide), Or.inr (RD_SC h_1.2 (SC_wr SC_rf (by decide)))⟩) (gN P) 0 (c_1 67) (by omega) (fun q hq => by omega); rw [wr_self] at l9; exact l9) | exact K _ (by first | exact ⟨SD_rf, hR⟩ | exact ⟨h_1.1, Or.inr h_1.2⟩ | assumption | exact ⟨SD_tr h_1.1 (SD_SC h_2), Or.inr (RD_SC h_1.2 h_2)⟩ | exact ⟨SD_tr h_1.1 (SD_SC (SC_tr h_2 h_3)), Or.inr (RD_SC h_1.2 (SC_tr h_2 h_3))⟩) | (refine K1 _ _ (by first | exact ⟨SD_rf, hR⟩ | exact ⟨h_1.1, Or.inr h_1.2⟩ | assumption | exact ⟨SD_tr h_1.1 (SD_SC h_2), Or.inr (RD_SC h_1.2 h_2)⟩ | exact ⟨SD_tr h_1.1 (SD_SC (SC_tr h_2 h_3)), Or.inr (RD_SC h_1.2 (SC_tr h_2 h_3))⟩) ?_; first | rfl | (simp [bz, *]; done) | (split <;> first | rfl | omega))
  · have e : q_chains P x y = (-2) := by rw [q_chains, if_neg hv]
    rw [e] at K
    have K1 : ∀ (z : Int) (c2 : Nat → Nat → Int), ((SD c c2 ∧ RR P T c2)) → z = ((-2)) → post (some (vl z)) (S nw nx g, 78 + gn, c2) := fun z c2 h e9 => e9 ▸ K c2 h
    refine g_X9_chains_0 hM hV hC hG hR hBT ?_
    refine ⟨?_, ?_, fun c_1 h_1 => ⟨fun q => ?_, fun q => ?_⟩⟩
    all_goals first | omega | assumption | (exfalso; simp only [decide_eq_true_eq, decide_eq_false_iff_not] at *; omega) | exact K _ (by first | exact ⟨SD_rf, hR⟩ | exact ⟨h_1.1, Or.inr h_1.2⟩ | assumption | exact ⟨SD_tr h_1.1 (SD_SC h_2), Or.inr (RD_SC h_1.2 h_2)⟩ | exact ⟨SD_tr h_1.1 (SD_SC (SC_tr h_2 h_3)), Or.inr (RD_SC h_1.2 (SC_tr h_2 h_3))⟩) | (refine K1 _ _ (by first | exact ⟨SD_rf, hR⟩ | exact ⟨h_1.1, Or.inr h_1.2⟩ | assumption | exact ⟨SD_tr h_1.1 (SD_SC h_2), Or.inr (RD_SC h_1.2 h_2)⟩ | exact ⟨SD_tr h_1.1 (SD_SC (SC_tr h_2 h_3)), Or.inr (RD_SC h_1.2 (SC_tr h_2 h_3))⟩) ?_; first | rfl | (simp [bz, *]; done) | (split <;> first | rfl | omega))

