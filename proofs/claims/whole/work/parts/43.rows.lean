/-- which letter the k-th shortest row begins with, and which of those that begin so it is -/
def rsF (P : GD) (x : Nat) : Nat → Nat → Nat → Nat × Nat
  | 0, s, l => (s, l)
  | k + 1, s, l => if l < gRF P x s then (s, l) else rsF P x k (s + 1) (l - gRF P x s)
def rowF (P : GD) : Nat → Nat → Nat → Nat → Nat
  | 0, _, _, a => a
  | n + 1, x, l, a => rowF P n (gX P ((rsF P x (gR P - 1) 0 l).1 + 1) x) (rsF P x (gR P - 1) 0 l).2 (a * 2 ^ 3 ||| (rsF P x (gR P - 1) 0 l).1)
/-- letter i of row l of x -/
def rlF (P : GD) : Nat → Nat → Nat → Nat
  | 0, x, l => (rsF P x (gR P - 1) 0 l).1
  | i + 1, x, l => rlF P i (gX P ((rsF P x (gR P - 1) 0 l).1 + 1) x) (rsF P x (gR P - 1) 0 l).2
theorem rsF_lt {P : GD} {x : Nat} : ∀ k s l, (rsF P x k s l).1 ≤ s + k ∧ (rsF P x k s l).2 ≤ l := by
  intro k
  induction k with
  | zero => intro s l; exact ⟨Nat.le_refl _, Nat.le_refl _⟩
  | succ k ih =>
    intro s l
    rw [rsF]
    split
    · exact ⟨by show s ≤ _; omega, Nat.le_refl _⟩
    · have := ih (s + 1) (l - gRF P x s)
      omega
def hLn (P : GD) : Prop := ∀ s, s < gR P → s + 1 < gN P
theorem or8 {a s : Nat} (hs : s < 8) : a * 2 ^ 3 ||| s = a * 8 + s := by
  rw [Nat.mul_comm a, ← Nat.two_pow_add_eq_or_of_lt (i := 3) hs]
theorem rs8 {P : GD} (hV : GV P) (x l : Nat) : (rsF P x (gR P - 1) 0 l).1 < 8 := by
  have := (rsF_lt (P := P) (x := x) (gR P - 1) 0 l).1
  have := GV_R hV
  omega
theorem rs5 {P : GD} (hR : 0 < gR P) (x l : Nat) : (rsF P x (gR P - 1) 0 l).1 < gR P := by
  have := (rsF_lt (P := P) (x := x) (gR P - 1) 0 l).1
  omega
theorem rowF_form {P : GD} (hV : GV P) : ∀ n x l a, ∃ r, r < 8 ^ n ∧ rowF P n x l a = a * 8 ^ n + r := by
  intro n
  induction n with
  | zero => intro x l a; exact ⟨0, by decide, by simp [rowF]⟩
  | succ n ih =>
    intro x l a
    rw [rowF, or8 (rs8 hV x l)]
    have h8 := rs8 hV x l
    generalize (rsF P x (gR P - 1) 0 l).1 = s at *
    obtain ⟨r, hr, e⟩ := ih (gX P (s + 1) x) (rsF P x (gR P - 1) 0 l).2 (a * 8 + s)
    refine ⟨s * 8 ^ n + r, ?_, ?_⟩
    · have : s * 8 ^ n ≤ 7 * 8 ^ n := Nat.mul_le_mul_right _ (by omega)
      rw [Nat.pow_succ]; omega
    · rw [e, Nat.pow_succ, Nat.add_mul, Nat.mul_assoc, Nat.mul_comm 8]; omega
theorem rowF_let {P : GD} (hV : GV P) : ∀ n x l a i, i < n → rowF P n x l a / 8 ^ (n - 1 - i) % 8 = rlF P i x l := by
  intro n
  induction n with
  | zero => intro x l a i h; omega
  | succ n ih =>
    intro x l a i hi
    rw [rowF, or8 (rs8 hV x l)]
    have h8 := rs8 hV x l
    cases i with
    | zero =>
      rw [rlF]
      generalize (rsF P x (gR P - 1) 0 l).1 = s at *
      obtain ⟨r, hr, e⟩ := rowF_form hV n (gX P (s + 1) x) (rsF P x (gR P - 1) 0 l).2 (a * 8 + s)
      rw [e, show n + 1 - 1 - 0 = n by omega, Nat.mul_comm, Nat.mul_add_div (Nat.pos_of_ne_zero (by simp)), Nat.div_eq_of_lt hr]
      omega
    | succ i =>
      rw [rlF, show n + 1 - 1 - (i + 1) = n - 1 - i by omega]
      exact ih _ _ _ i (by omega)
theorem rowF_lt {P : GD} (hV : GV P) {n x l : Nat} (hn : n ≤ 13) : rowF P n x l 0 < 2 ^ 40 := by
  obtain ⟨r, hr, e⟩ := rowF_form hV n x l 0
  have : 8 ^ n ≤ 8 ^ 13 := Nat.pow_le_pow_right (by decide) hn
  rw [e]; omega
theorem pow38 (k : Nat) : 2 ^ (3 * k) = 8 ^ k := by rw [Nat.pow_mul]
set_option maxHeartbeats 2000000 in
set_option maxRecDepth 20000 in
theorem g_X1_row_25 {G : GG} {j nw nx gn : Nat} {g : Nat → Sh} {c : Nat → Nat → Int} {post : Option AV → AM → Prop} {e : Nat} {x0 : Nat} {k0 : Nat} (he : e = 21 ∨ e = 35) {P : GD} {a : Nat} {x : Nat} {t : Nat} {s : Nat} {l : Nat} (hE : EL c e P) (hV : GV P)  (hv : (1 ≤ gR P) ∧ ((s < 2147483648) ∧ ((gR P) - 1 < 2147483648) ∧ ((((gR P) - 1 ≤ s) → (s < 2147483648) ∧ (((s + 1) < gN P) ∧ (x < gN P) ∧ (SW G (j + 2) mX1_row 17 [some (vr (e)), some (vi (((x0 : Nat) : Int))), some (vi (((k0 : Nat) : Int))), some (vl ((((a * 2 ^ 3) ||| s : Nat) : Int))), none, some (vl (((l : Nat) : Int))), none, some (vi (((gX P (s + 1) x : Nat) : Int))), some (vi (((t : Nat) : Int) + (-1))), none] [] (S nw nx g, 78 + gn, c) B0 post))) ∧ ((¬ ((gR P) - 1 ≤ s)) → (x < gN P) ∧ (s < gR P) ∧ (s + 1 < gN P) ∧ ((l < 9223372036854775808) ∧ (gRF P x s < 9223372036854775808) ∧ (((l < gRF P x s) → (s < 2147483648) ∧ (((s + 1) < gN P) ∧ (x < gN P) ∧ (SW G (j + 2) mX1_row 17 [some (vr (e)), some (vi (((x0 : Nat) : Int))), some (vi (((k0 : Nat) : Int))), some (vl ((((a * 2 ^ 3) ||| s : Nat) : Int))), none, some (vl (((l : Nat) : Int))), none, some (vi (((gX P (s + 1) x : Nat) : Int))), some (vi (((t : Nat) : Int) + (-1))), none] [] (S nw nx g, 78 + gn, c) B0 post))) ∧ ((¬ (l < gRF P x s)) → (x < gN P) ∧ (s < gR P) ∧ (s + 1 < gN P) ∧ ((gRF P x s ≤ l) ∧ (SW G (j + 2) mX1_row 25 [some (vr (e)), some (vi (((x0 : Nat) : Int))), some (vi (((k0 : Nat) : Int))), some (vl (((a : Nat) : Int))), none, some (vl (((l - (gRF P x s) : Nat) : Int))), none, some (vi (((x : Nat) : Int))), some (vi (((t : Nat) : Int))), some (vi (((s + 1 : Nat) : Int)))] [] (S nw nx g, 78 + gn, c) B0 post))))))))) :
    SW G (j + 2) mX1_row 25 [some (vr (e)), some (vi (((x0 : Nat) : Int))), some (vi (((k0 : Nat) : Int))), some (vl (((a : Nat) : Int))), none, some (vl (((l : Nat) : Int))), none, some (vi (((x : Nat) : Int))), some (vi (((t : Nat) : Int))), some (vi (((s : Nat) : Int)))] [] (S nw nx g, 78 + gn, c) B0 post := by
  refine sw_iload (dX1_row.at 16 rfl) rfl ?_
  refine sw_aload_n (dX1_row.at 17 rfl) rfl rfl ?_
  refine sw_getIE (w := ((gR P : Nat) : Int)) (dX1_row.at 18 rfl) fp_X1_58 (S_e_lt he) (S_e he) rfl (EL_R hE) ?_
  refine sw_iconst (dX1_row.at 19 rfl) ?_
  refine sw_isub (dX1_row.at 20 rfl) ?_
  refine sw_topI (y := (((gR P) - 1 : Nat) : Int)) (congrArg _ (Int.ofNat_sub hv.1).symm) ?_
  replace hv := hv.2
  refine sw_icmpN_ge s ((gR P) - 1) (tgt := 69) (dX1_row.at 21 rfl) (by decide) hv.1 hv.2.1 (fun q => ?_) (fun q => ?_)
  · replace hv := hv.2.2.1 q
    refine sw_lload_n (dX1_row.at 38 rfl) rfl rfl ?_
    refine sw_iconst (dX1_row.at 39 rfl) ?_
    refine sw_lshlN a 3 (dX1_row.at 40 rfl) (by decide) ?_
    refine sw_iload (dX1_row.at 41 rfl) rfl ?_
    refine sw_i2l (dX1_row.at 42 rfl) (nrng hv.1) ?_
    replace hv := hv.2
    refine sw_lorN (a * 2 ^ 3) s (dX1_row.at 43 rfl) ?_
    refine sw_lstore_n (lo' := [some (vr (e)), some (vi (((x0 : Nat) : Int))), some (vi (((k0 : Nat) : Int))), some (vl ((((a * 2 ^ 3) ||| s : Nat) : Int))), none, some (vl (((l : Nat) : Int))), none, some (vi (((x : Nat) : Int))), some (vi (((t : Nat) : Int))), some (vi (((s : Nat) : Int)))]) (dX1_row.at 44 rfl) rfl (by decide) rfl ?_
    refine sw_aload_n (dX1_row.at 45 rfl) rfl rfl ?_
    refine sw_iload (dX1_row.at 46 rfl) rfl ?_
    refine sw_iconst (dX1_row.at 47 rfl) ?_
    refine sw_iadd (dX1_row.at 48 rfl) ?_
    refine sw_topI (y := ((s + 1 : Nat) : Int)) (by first | rfl | (congr 1)) ?_
    refine sw_iload (dX1_row.at 49 rfl) rfl ?_
    refine sw_callV (B' := B0) (As := [vi (((s + 1 : Nat) : Int)), vi (((x : Nat) : Int))]) (mc := 0) (ms := 0) (dX1_row.at 50 rfl) lk_X1_110 (S_e_lt he) (S_e he) rfl rfl (Nat.le_of_ble_eq_true rfl) rfl (Nat.le_refl _) (Nat.le_refl _) ?_
    refine c_X1_mulP (e := e) (x := (s + 1)) (y := x) (j := j + 1) he hE hV hv.1 hv.2.1 ?_
    replace hv := hv.2.2
    refine sw_istore (lo' := [some (vr (e)), some (vi (((x0 : Nat) : Int))), some (vi (((k0 : Nat) : Int))), some (vl ((((a * 2 ^ 3) ||| s : Nat) : Int))), none, some (vl (((l : Nat) : Int))), none, some (vi (((gX P (s + 1) x : Nat) : Int))), some (vi (((t : Nat) : Int))), some (vi (((s : Nat) : Int)))]) (dX1_row.at 51 rfl) (by decide) rfl ?_
    refine sw_iinc (lo' := [some (vr (e)), some (vi (((x0 : Nat) : Int))), some (vi (((k0 : Nat) : Int))), some (vl ((((a * 2 ^ 3) ||| s : Nat) : Int))), none, some (vl (((l : Nat) : Int))), none, some (vi (((gX P (s + 1) x : Nat) : Int))), some (vi (((t : Nat) : Int) + (-1))), some (vi (((s : Nat) : Int)))]) (dX1_row.at 52 rfl) rfl (by decide) rfl ?_
    refine sw_goto (tgt := 17) (dX1_row.at 53 rfl) (by decide) ?_
    exact sw_mask (bs := [true, true, true, true, true, true, true, true, true, false]) hv
  · replace hv := hv.2.2.2 q
    refine sw_lload (dX1_row.at 22 rfl) rfl ?_
    refine sw_aload_n (dX1_row.at 23 rfl) rfl rfl ?_
    refine sw_iload (dX1_row.at 24 rfl) rfl ?_
    refine sw_iload (dX1_row.at 25 rfl) rfl ?_
    refine sw_callV (B' := B0) (As := [vi (((x : Nat) : Int)), vi (((s : Nat) : Int))]) (mc := 0) (ms := 0) (dX1_row.at 26 rfl) lk_X1_129 (S_e_lt he) (S_e he) rfl rfl (Nat.le_of_ble_eq_true rfl) rfl (Nat.le_refl _) (Nat.le_refl _) ?_
    refine c_X1_rowsFrom (e := e) (x := x) (s := s) (j := j + 0) he hE hV hv.1 hv.2.1 hv.2.2.1 ?_
    replace hv := hv.2.2.2
    refine sw_lcmpN_lt l (gRF P x s) (tgt := 69) (dX1_row.at 27 rfl) (dX1_row.at 28 rfl) (by decide) hv.1 hv.2.1 (fun q => ?_) (fun q => ?_)
    · replace hv := hv.2.2.1 q
      refine sw_lload_n (dX1_row.at 38 rfl) rfl rfl ?_
      refine sw_iconst (dX1_row.at 39 rfl) ?_
      refine sw_lshlN a 3 (dX1_row.at 40 rfl) (by decide) ?_
      refine sw_iload (dX1_row.at 41 rfl) rfl ?_
      refine sw_i2l (dX1_row.at 42 rfl) (nrng hv.1) ?_
      replace hv := hv.2
      refine sw_lorN (a * 2 ^ 3) s (dX1_row.at 43 rfl) ?_
      refine sw_lstore_n (lo' := [some (vr (e)), some (vi (((x0 : Nat) : Int))), some (vi (((k0 : Nat) : Int))), some (vl ((((a * 2 ^ 3) ||| s : Nat) : Int))), none, some (vl (((l : Nat) : Int))), none, some (vi (((x : Nat) : Int))), some (vi (((t : Nat) : Int))), some (vi (((s : Nat) : Int)))]) (dX1_row.at 44 rfl) rfl (by decide) rfl ?_
      refine sw_aload_n (dX1_row.at 45 rfl) rfl rfl ?_
      refine sw_iload (dX1_row.at 46 rfl) rfl ?_
      refine sw_iconst (dX1_row.at 47 rfl) ?_
      refine sw_iadd (dX1_row.at 48 rfl) ?_
      refine sw_topI (y := ((s + 1 : Nat) : Int)) (by first | rfl | (congr 1)) ?_
      refine sw_iload (dX1_row.at 49 rfl) rfl ?_
      refine sw_callV (B' := B0) (As := [vi (((s + 1 : Nat) : Int)), vi (((x : Nat) : Int))]) (mc := 0) (ms := 0) (dX1_row.at 50 rfl) lk_X1_110 (S_e_lt he) (S_e he) rfl rfl (Nat.le_of_ble_eq_true rfl) rfl (Nat.le_refl _) (Nat.le_refl _) ?_
      refine c_X1_mulP (e := e) (x := (s + 1)) (y := x) (j := j + 1) he hE hV hv.1 hv.2.1 ?_
      replace hv := hv.2.2
      refine sw_istore (lo' := [some (vr (e)), some (vi (((x0 : Nat) : Int))), some (vi (((k0 : Nat) : Int))), some (vl ((((a * 2 ^ 3) ||| s : Nat) : Int))), none, some (vl (((l : Nat) : Int))), none, some (vi (((gX P (s + 1) x : Nat) : Int))), some (vi (((t : Nat) : Int))), some (vi (((s : Nat) : Int)))]) (dX1_row.at 51 rfl) (by decide) rfl ?_
      refine sw_iinc (lo' := [some (vr (e)), some (vi (((x0 : Nat) : Int))), some (vi (((k0 : Nat) : Int))), some (vl ((((a * 2 ^ 3) ||| s : Nat) : Int))), none, some (vl (((l : Nat) : Int))), none, some (vi (((gX P (s + 1) x : Nat) : Int))), some (vi (((t : Nat) : Int) + (-1))), some (vi (((s : Nat) : Int)))]) (dX1_row.at 52 rfl) rfl (by decide) rfl ?_
      refine sw_goto (tgt := 17) (dX1_row.at 53 rfl) (by decide) ?_
      exact sw_mask (bs := [true, true, true, true, true, true, true, true, true, false]) hv
    · replace hv := hv.2.2.2 q
      refine sw_lload (dX1_row.at 29 rfl) rfl ?_
      refine sw_aload_n (dX1_row.at 30 rfl) rfl rfl ?_
      refine sw_iload (dX1_row.at 31 rfl) rfl ?_
      refine sw_iload (dX1_row.at 32 rfl) rfl ?_
      refine sw_callV (B' := B0) (As := [vi (((x : Nat) : Int)), vi (((s : Nat) : Int))]) (mc := 0) (ms := 0) (dX1_row.at 33 rfl) lk_X1_129 (S_e_lt he) (S_e he) rfl rfl (Nat.le_of_ble_eq_true rfl) rfl (Nat.le_refl _) (Nat.le_refl _) ?_
      refine c_X1_rowsFrom (e := e) (x := x) (s := s) (j := j + 0) he hE hV hv.1 hv.2.1 hv.2.2.1 ?_
      replace hv := hv.2.2.2
      refine sw_lsub (dX1_row.at 34 rfl) ?_
      refine sw_topL (y := ((l - (gRF P x s) : Nat) : Int)) (congrArg _ (Int.ofNat_sub hv.1).symm) ?_
      replace hv := hv.2
      refine sw_lstore (lo' := [some (vr (e)), some (vi (((x0 : Nat) : Int))), some (vi (((k0 : Nat) : Int))), some (vl (((a : Nat) : Int))), none, some (vl (((l - (gRF P x s) : Nat) : Int))), none, some (vi (((x : Nat) : Int))), some (vi (((t : Nat) : Int))), some (vi (((s : Nat) : Int)))]) (dX1_row.at 35 rfl) (by decide) rfl ?_
      refine sw_iinc (lo' := [some (vr (e)), some (vi (((x0 : Nat) : Int))), some (vi (((k0 : Nat) : Int))), some (vl (((a : Nat) : Int))), none, some (vl (((l - (gRF P x s) : Nat) : Int))), none, some (vi (((x : Nat) : Int))), some (vi (((t : Nat) : Int))), some (vi (((s + 1 : Nat) : Int)))]) (dX1_row.at 36 rfl) rfl (by decide) rfl ?_
      refine sw_goto (tgt := 25) (dX1_row.at 37 rfl) (by decide) ?_
      exact hv

set_option maxHeartbeats 4000000 in
theorem lp_X1_row_25 {G : GG} {j nw nx gn : Nat} {g : Nat → Sh} {c : Nat → Nat → Int} {post : Option AV → AM → Prop} {P : GD} {a : Nat} {x : Nat} {t : Nat} {e : Nat} {x0 : Nat} {k0 : Nat} (he : e = 21 ∨ e = 35) (hE : EL c e P) (hV : GV P) (hL : hLn P) (hx : x < gN P) : ∀ (k : Nat) (s : Nat) (l : Nat), s + k + 1 = gR P → (l < 2147483648) → (SW G (j + 2) mX1_row 17 [some (vr (e)), some (vi (((x0 : Nat) : Int))), some (vi (((k0 : Nat) : Int))), some (vl (((a * 2 ^ 3 ||| (rsF P x k s l).1 : Nat) : Int))), none, some (vl ((((rsF P x k s l).2 : Nat) : Int))), none, some (vi (((gX P ((rsF P x k s l).1 + 1) x : Nat) : Int))), some (vi (((t : Nat) : Int) + (-1))), none] [] (S nw nx g, 78 + gn, c) B0 post) → SW G (j + 2) mX1_row 25 [some (vr (e)), some (vi (((x0 : Nat) : Int))), some (vi (((k0 : Nat) : Int))), some (vl (((a : Nat) : Int))), none, some (vl (((l : Nat) : Int))), none, some (vi (((x : Nat) : Int))), some (vi (((t : Nat) : Int))), some (vi (((s : Nat) : Int)))] [] (S nw nx g, 78 + gn, c) B0 post := by
  intro k
  induction k with
  | zero =>
    intro s l hrel hl K
    have h60 := GV_N hV
    have h5 := GV_R hV
    have h9 := hL s (by omega)
    simp only [rsF] at K
    refine g_X1_row_25 he hE hV ?_
    refine ⟨?_, ⟨?_, ?_, ⟨fun q => ⟨?_, ⟨?_, ?_, ?_⟩⟩, fun q => ⟨?_, ?_, ?_, ⟨?_, ?_, ⟨fun q => ⟨?_, ⟨?_, ?_, ?_⟩⟩, fun q => ⟨?_, ?_, ?_, ⟨?_, ?_⟩⟩⟩⟩⟩⟩⟩⟩
    all_goals first | omega | assumption | (exfalso; omega) | exact K
  | succ k ih =>
    intro s l hrel hl K
    have h60 := GV_N hV
    have h5 := GV_R hV
    have h9 := hL s (by omega)
    have r9 : gRF P x s ≤ 240 := by
      rw [gRF]; split
      · exact (hV.2.2.1 _ (hV.2.2.2.2.1 _ _ h9 hx)).2.2.2.2.2.2.2.1
      · omega
    rw [rsF] at K
    refine g_X1_row_25 he hE hV ?_
    refine ⟨?_, ⟨?_, ?_, ⟨fun q => ⟨?_, ⟨?_, ?_, ?_⟩⟩, fun q => ⟨?_, ?_, ?_, ⟨?_, ?_, ⟨fun q => ⟨?_, ⟨?_, ?_, ?_⟩⟩, fun q => ⟨?_, ?_, ?_, ⟨?_, ?_⟩⟩⟩⟩⟩⟩⟩⟩
    all_goals first | omega | assumption | (exfalso; omega) | (rw [if_pos (by omega)] at K; exact K) | (rw [if_neg (by omega)] at K; exact ih _ _ (by omega) (by omega) K)

set_option maxHeartbeats 2000000 in
set_option maxRecDepth 20000 in
theorem g_X1_row_17 {G : GG} {j nw nx gn : Nat} {g : Nat → Sh} {c : Nat → Nat → Int} {post : Option AV → AM → Prop} {e : Nat} {x0 : Nat} {k0 : Nat} (he : e = 21 ∨ e = 35) {P : GD} {a : Nat} {l : Nat} {x : Nat} {t : Nat} (hE : EL c e P) (hV : GV P)  (hv : (t < 2147483648) ∧ (((((t : Nat) : Int) ≤ 0) → post (some (vl (((a : Nat) : Int)))) (S nw nx g, 78 + gn, c)) ∧ ((¬ (((t : Nat) : Int) ≤ 0)) → SW G (j + 2) mX1_row 25 [some (vr (e)), some (vi (((x0 : Nat) : Int))), some (vi (((k0 : Nat) : Int))), some (vl (((a : Nat) : Int))), none, some (vl (((l : Nat) : Int))), none, some (vi (((x : Nat) : Int))), some (vi (((t : Nat) : Int))), some (vi (0))] [] (S nw nx g, 78 + gn, c) B0 post))) :
    SW G (j + 2) mX1_row 17 [some (vr (e)), some (vi (((x0 : Nat) : Int))), some (vi (((k0 : Nat) : Int))), some (vl (((a : Nat) : Int))), none, some (vl (((l : Nat) : Int))), none, some (vi (((x : Nat) : Int))), some (vi (((t : Nat) : Int))), none] [] (S nw nx g, 78 + gn, c) B0 post := by
  refine sw_iload (dX1_row.at 12 rfl) rfl ?_
  refine sw_if_le (tgt := 95) (dX1_row.at 13 rfl) (by decide) (nrng hv.1) (fun q => ?_) (fun q => ?_)
  · replace hv := hv.2.1 q
    refine sw_lload_n (dX1_row.at 54 rfl) rfl rfl ?_
    exact sw_lret (dX1_row.at 55 rfl) rfl (Nat.le_refl _) (Nat.le_refl _) hv
  · replace hv := hv.2.2 q
    refine sw_iconst (dX1_row.at 14 rfl) ?_
    refine sw_istore (lo' := [some (vr (e)), some (vi (((x0 : Nat) : Int))), some (vi (((k0 : Nat) : Int))), some (vl (((a : Nat) : Int))), none, some (vl (((l : Nat) : Int))), none, some (vi (((x : Nat) : Int))), some (vi (((t : Nat) : Int))), some (vi (0))]) (dX1_row.at 15 rfl) (by decide) rfl ?_
    exact hv

set_option maxHeartbeats 2000000 in
theorem lp_X1_row_17 {G : GG} {j nw nx gn : Nat} {g : Nat → Sh} {c : Nat → Nat → Int} {post : Option AV → AM → Prop} {P : GD} {e x0 k0 : Nat} (he : e = 21 ∨ e = 35) (hE : EL c e P) (hV : GV P) (hL : hLn P) (hR : 0 < gR P) : ∀ (t x l a : Nat), x < gN P → l < 2147483648 → t ≤ 13 → post (some (vl ((rowF P t x l a : Nat) : Int))) (S nw nx g, 78 + gn, c) → SW G (j + 2) mX1_row 17 [some (vr (e)), some (vi (((x0 : Nat) : Int))), some (vi (((k0 : Nat) : Int))), some (vl (((a : Nat) : Int))), none, some (vl (((l : Nat) : Int))), none, some (vi (((x : Nat) : Int))), some (vi (((t : Nat) : Int))), none] [] (S nw nx g, 78 + gn, c) B0 post := by
  have h5 := GV_R hV
  intro t
  induction t with
  | zero =>
    intro x l a hx hl ht K
    rw [rowF] at K
    refine g_X1_row_17 he hE hV ?_
    refine ⟨?_, ⟨fun q => ?_, fun q => ?_⟩⟩
    all_goals first | omega | exact K | (exfalso; omega)
  | succ t ih =>
    intro x l a hx hl ht K
    rw [rowF] at K
    have h1 := (rsF_lt (P := P) (x := x) (gR P - 1) 0 l)
    have h2 := rs5 hR x l
    have h3 := ih _ _ _ (hV.2.2.2.2.1 _ _ (hL _ h2) hx) (by omega) (by omega) K
    have e1 : ((t + 1 : Nat) : Int) + (-1) = ((t : Nat) : Int) := by omega
    rw [← e1] at h3
    refine g_X1_row_17 he hE hV ?_
    refine ⟨?_, ⟨fun q => ?_, fun q => ?_⟩⟩
    all_goals first | omega | (exfalso; omega) | exact lp_X1_row_25 he hE hV hL hx (gR P - 1) 0 l (by omega) hl h3

set_option maxHeartbeats 2000000 in
set_option maxRecDepth 20000 in
theorem g_X1_row_0 {G : GG} {j nw nx gn : Nat} {g : Nat → Sh} {c : Nat → Nat → Int} {post : Option AV → AM → Prop} {e : Nat} {x0 : Nat} {k0 : Nat} (he : e = 21 ∨ e = 35) {P : GD} (hE : EL c e P) (hV : GV P)  (hv : (k0 < 2147483648) ∧ ((x0 < gN P) ∧ (SW G (j + 2) mX1_row 17 [some (vr (e)), some (vi (((x0 : Nat) : Int))), some (vi (((k0 : Nat) : Int))), some (vl (0)), none, some (vl (((k0 : Nat) : Int))), none, some (vi (((x0 : Nat) : Int))), some (vi (((gL P x0 : Nat) : Int))), none] [] (S nw nx g, 78 + gn, c) B0 post))) :
    SW G (j + 2) mX1_row 0 [some (vr (e)), some (vi (((x0 : Nat) : Int))), some (vi (((k0 : Nat) : Int))), none, none, none, none, none, none, none] [] (S nw nx g, 78 + gn, c) B0 post := by
  refine sw_lconst (z := 0) (dX1_row.at 0 rfl) (by decide) ?_
  refine sw_lstore_n (lo' := [some (vr (e)), some (vi (((x0 : Nat) : Int))), some (vi (((k0 : Nat) : Int))), some (vl (0)), none, none, none, none, none, none]) (dX1_row.at 1 rfl) rfl (by decide) rfl ?_
  refine sw_iload_n (dX1_row.at 2 rfl) rfl rfl ?_
  refine sw_i2l (dX1_row.at 3 rfl) (nrng hv.1) ?_
  replace hv := hv.2
  refine sw_lstore (lo' := [some (vr (e)), some (vi (((x0 : Nat) : Int))), some (vi (((k0 : Nat) : Int))), some (vl (0)), none, some (vl (((k0 : Nat) : Int))), none, none, none, none]) (dX1_row.at 4 rfl) (by decide) rfl ?_
  refine sw_iload_n (dX1_row.at 5 rfl) rfl rfl ?_
  refine sw_istore (lo' := [some (vr (e)), some (vi (((x0 : Nat) : Int))), some (vi (((k0 : Nat) : Int))), some (vl (0)), none, some (vl (((k0 : Nat) : Int))), none, some (vi (((x0 : Nat) : Int))), none, none]) (dX1_row.at 6 rfl) (by decide) rfl ?_
  refine sw_aload_n (dX1_row.at 7 rfl) rfl rfl ?_
  refine sw_getR (dX1_row.at 8 rfl) fp_X1_15 (S_e_lt he) (S_e he) rfl rfl ?_
  refine sw_iload_n (dX1_row.at 9 rfl) rfl rfl ?_
  refine sw_ialdN x0 (w := ((gL P x0 : Nat) : Int)) (dX1_row.at 10 rfl) (S_ek_lt he (by decide)) (S_e_2 he) (by decide) (GV_lt hV hv.1) (EL_L hE hv.1) ?_
  replace hv := hv.2
  refine sw_istore (lo' := [some (vr (e)), some (vi (((x0 : Nat) : Int))), some (vi (((k0 : Nat) : Int))), some (vl (0)), none, some (vl (((k0 : Nat) : Int))), none, some (vi (((x0 : Nat) : Int))), some (vi (((gL P x0 : Nat) : Int))), none]) (dX1_row.at 11 rfl) (by decide) rfl ?_
  exact hv

set_option maxHeartbeats 2000000 in
theorem c_X1_row {G : GG} {j nw nx gn : Nat} {g : Nat → Sh} {c : Nat → Nat → Int} {post : Option AV → AM → Prop} {P : GD} {e : Nat} {x0 : Nat} {k0 : Nat} (he : e = 21 ∨ e = 35) (hE : EL c e P) (hV : GV P) (hL : hLn P) (p1 : x0 < gN P) (p2 : k0 < 2147483648) (p3 : 0 < gR P) (K : post (some (vl (((rowF P (gL P x0) x0 k0 0 : Nat) : Int)))) (S nw nx g, 78 + gn, c)) : SM G (j + 3) mX1_row [vr (e), vi (((x0 : Nat) : Int)), vi (((k0 : Nat) : Int))] (S nw nx g, 78 + gn, c) 0 0 post := by
  refine sm_of wX1_row rfl (Nat.le_of_ble_eq_true rfl) ?_
  refine g_X1_row_0 he hE hV ?_
  have h1 := (hV.2.2.1 x0 p1).1
  refine ⟨?_, ⟨?_, ?_⟩⟩
  all_goals first | omega | exact lp_X1_row_17 he hE hV hL p3 _ x0 k0 0 p1 p2 h1 K

set_option maxHeartbeats 2000000 in
set_option maxRecDepth 20000 in
theorem g_X8_letterOfRow_0 {G : GG} {j nw nx gn : Nat} {g : Nat → Sh} {c : Nat → Nat → Int} {post : Option AV → AM → Prop} {r : Nat} {z : Nat} {i : Nat}  (hv : (1 ≤ z) ∧ ((i ≤ z - 1) ∧ ((r < 9223372036854775808) ∧ (3 * ((z - 1) - i) < 64) ∧ (post (some (vi ((((r / 2 ^ (3 * ((z - 1) - i))) &&& 7 : Nat) : Int)))) (S nw nx g, 78 + gn, c))))) :
    SW G (j + 0) mX8_letterOfRow 0 [some (vl (((r : Nat) : Int))), none, some (vi (((z : Nat) : Int))), some (vi (((i : Nat) : Int)))] [] (S nw nx g, 78 + gn, c) B0 post := by
  refine sw_lload_n (dX8_letterOfRow.at 0 rfl) rfl rfl ?_
  refine sw_iconst (dX8_letterOfRow.at 1 rfl) ?_
  refine sw_iload_n (dX8_letterOfRow.at 2 rfl) rfl rfl ?_
  refine sw_iconst (dX8_letterOfRow.at 3 rfl) ?_
  refine sw_isub (dX8_letterOfRow.at 4 rfl) ?_
  refine sw_topI (y := ((z - 1 : Nat) : Int)) (congrArg _ (Int.ofNat_sub hv.1).symm) ?_
  replace hv := hv.2
  refine sw_iload_n (dX8_letterOfRow.at 5 rfl) rfl rfl ?_
  refine sw_isub (dX8_letterOfRow.at 6 rfl) ?_
  refine sw_topI (y := (((z - 1) - i : Nat) : Int)) (congrArg _ (Int.ofNat_sub hv.1).symm) ?_
  replace hv := hv.2
  refine sw_imul (dX8_letterOfRow.at 7 rfl) ?_
  refine sw_topI (y := ((3 * ((z - 1) - i) : Nat) : Int)) (by first | rfl | (congr 1)) ?_
  refine sw_lshrN r (3 * ((z - 1) - i)) (dX8_letterOfRow.at 8 rfl) hv.1 hv.2.1 ?_
  replace hv := hv.2.2
  refine sw_l2i (dX8_letterOfRow.at 9 rfl) ?_
  refine sw_bipush (dX8_letterOfRow.at 10 rfl) (by decide) ?_
  refine sw_andN (r / 2 ^ (3 * ((z - 1) - i))) 7 (dX8_letterOfRow.at 11 rfl) ?_
  exact sw_iret (dX8_letterOfRow.at 12 rfl) rfl (Nat.le_refl _) (Nat.le_refl _) hv

set_option maxHeartbeats 2000000 in
theorem c_X8_letterOfRow {G : GG} {j nw nx gn : Nat} {g : Nat → Sh} {c : Nat → Nat → Int} {post : Option AV → AM → Prop} {r : Nat} {z : Nat} {i : Nat} (p1 : r < 2 ^ 62) (p2 : i < z) (p3 : z ≤ 20) (K : post (some (vi (((r / 8 ^ (z - 1 - i) % 8 : Nat) : Int)))) (S nw nx g, 78 + gn, c)) : SM G (j + 1) mX8_letterOfRow [vl (((r : Nat) : Int)), vi (((z : Nat) : Int)), vi (((i : Nat) : Int))] (S nw nx g, 78 + gn, c) 0 0 post := by
  refine sm_of wX8_letterOfRow rfl (Nat.le_of_ble_eq_true rfl) ?_
  refine g_X8_letterOfRow_0  ?_
  have e9 : r / 8 ^ (z - 1 - i) % 8 = (r / 2 ^ (3 * (z - 1 - i))) &&& 7 := by
    rw [pow38, show (7 : Nat) = 2 ^ 3 - 1 from rfl, Nat.and_two_pow_sub_one_eq_mod]
  rw [e9] at K
  refine ⟨?_, ⟨?_, ⟨?_, ?_, ?_⟩⟩⟩
  all_goals first | omega | exact K

def q_spelled (P : GD) (x k i : Int) : Int := if (0 ≤ x ∧ x < (gN P : Int)) ∧ 0 ≤ k ∧ 0 ≤ i then if k.toNat < gW P x.toNat ∧ i.toNat < gL P x.toNat then ((rlF P i.toNat x.toNat k.toNat : Nat) : Int) else (-1) else (-2)
set_option maxHeartbeats 2000000 in
set_option maxRecDepth 20000 in
theorem g_X8_spelled_0n {G : GG} {j nw nx gn : Nat} {g : Nat → Sh} {c : Nat → Nat → Int} {post : Option AV → AM → Prop} {x : Nat} {k : Nat} {i : Nat} {P : GD} (hnw : nw = 21 ∨ nw = 35) (hE : EL c nw P) (hV : GV P) (hL : hLn P)  (hv : (-2147483648 ≤ ((x : Nat) : Int) ∧ ((x : Nat) : Int) < 2147483648) ∧ ((((decide (0 ≤ ((x : Nat) : Int) ∧ ((x : Nat) : Int) < (gN P : Int))) = false) → post (some (vi ((-2)))) (S nw nx g, 78 + gn, c)) ∧ (((decide (0 ≤ ((x : Nat) : Int) ∧ ((x : Nat) : Int) < (gN P : Int))) = true) → (k < 2147483648) ∧ (((((k : Nat) : Int) < 0) → post (some (vi ((-2)))) (S nw nx g, 78 + gn, c)) ∧ ((¬ (((k : Nat) : Int) < 0)) → (i < 2147483648) ∧ (((0 ≤ ((i : Nat) : Int)) → (k < 2147483648) ∧ ((x < gN P) ∧ ((k < 9223372036854775808) ∧ (gW P x < 9223372036854775808) ∧ (((gW P x ≤ k) → post (some (vi ((-1)))) (S nw nx g, 78 + gn, c)) ∧ ((¬ (gW P x ≤ k)) → (x < gN P) ∧ ((i < 2147483648) ∧ (gL P x < 2147483648) ∧ (((i < gL P x) → (x < gN P) ∧ (k < 2147483648) ∧ (0 < gR P) ∧ ((x < gN P) ∧ (((rowF P (gL P x) x k 0) < 2 ^ 62) ∧ (i < (gL P x)) ∧ ((gL P x) ≤ 20) ∧ (post (some (vi ((((rowF P (gL P x) x k 0) / 8 ^ ((gL P x) - 1 - i) % 8 : Nat) : Int)))) (S nw nx g, 78 + gn, c))))) ∧ ((¬ (i < gL P x)) → post (some (vi ((-1)))) (S nw nx g, 78 + gn, c))))))))) ∧ ((¬ (0 ≤ ((i : Nat) : Int))) → post (some (vi ((-2)))) (S nw nx g, 78 + gn, c)))))))) :
    SW G (j + 3) mX8_spelled 0 [some (vr (0)), some (vi (((x : Nat) : Int))), some (vi (((k : Nat) : Int))), some (vi (((i : Nat) : Int)))] [] (S nw nx g, 78 + gn, c) B0 post := by
  refine sw_aload_n (dX8_spelled.at 0 rfl) rfl rfl ?_
  refine sw_iload_n (dX8_spelled.at 1 rfl) rfl rfl ?_
  refine sw_callV (B' := B0) (As := [vi (((x : Nat) : Int))]) (mc := 0) (ms := 0) (dX8_spelled.at 2 rfl) lk_X8_130 (S_lt 0 (by decide)) (S_0 nw nx g) rfl rfl (Nat.le_of_ble_eq_true rfl) rfl (Nat.le_refl _) (Nat.le_refl _) ?_
  refine c_X8_isElementP (x := ((x : Nat) : Int)) (j := j + 2) hnw hE hV hv.1 ?_
  replace hv := hv.2
  refine sw_if_eq (tgt := 16) (dX8_spelled.at 3 rfl) (by decide) (bz_rng _) (fun q => ?_) (fun q => ?_)
  · replace hv := hv.1 (bz_0 q)
    refine sw_bipush (dX8_spelled.at 8 rfl) (by decide) ?_
    exact sw_iret (dX8_spelled.at 9 rfl) rfl (Nat.le_refl _) (Nat.le_refl _) hv
  · replace hv := hv.2 (bz_n0 q)
    refine sw_iload_n (dX8_spelled.at 4 rfl) rfl rfl ?_
    refine sw_if_lt (tgt := 16) (dX8_spelled.at 5 rfl) (by decide) (nrng hv.1) (fun q => ?_) (fun q => ?_)
    · replace hv := hv.2.1 q
      refine sw_bipush (dX8_spelled.at 8 rfl) (by decide) ?_
      exact sw_iret (dX8_spelled.at 9 rfl) rfl (Nat.le_refl _) (Nat.le_refl _) hv
    · replace hv := hv.2.2 q
      refine sw_iload_n (dX8_spelled.at 6 rfl) rfl rfl ?_
      refine sw_if_ge (tgt := 19) (dX8_spelled.at 7 rfl) (by decide) (nrng hv.1) (fun q => ?_) (fun q => ?_)
      · replace hv := hv.2.1 q
        refine sw_iload_n (dX8_spelled.at 10 rfl) rfl rfl ?_
        refine sw_i2l (dX8_spelled.at 11 rfl) (nrng hv.1) ?_
        replace hv := hv.2
        refine sw_aload_n (dX8_spelled.at 12 rfl) rfl rfl ?_
        refine sw_getR (dX8_spelled.at 13 rfl) fp_X8_65 (S_lt 0 (by decide)) (S_0 nw nx g) rfl rfl ?_
        refine sw_getR (dX8_spelled.at 14 rfl) fp_X8_144 (S_e_lt hnw) (S_e hnw) rfl rfl ?_
        refine sw_iload_n (dX8_spelled.at 15 rfl) rfl rfl ?_
        refine sw_laldN x (w := ((gW P x : Nat) : Int)) (dX8_spelled.at 16 rfl) (S_ek_lt hnw (by decide)) (S_e_12 hnw) (by decide) (GV_lt hV hv.1) (EL_W hE hv.1) ?_
        replace hv := hv.2
        refine sw_lcmpN_ge k (gW P x) (tgt := 47) (dX8_spelled.at 17 rfl) (dX8_spelled.at 18 rfl) (by decide) hv.1 hv.2.1 (fun q => ?_) (fun q => ?_)
        · replace hv := hv.2.2.1 q
          refine sw_iconst (dX8_spelled.at 26 rfl) ?_
          exact sw_iret (dX8_spelled.at 27 rfl) rfl (Nat.le_refl _) (Nat.le_refl _) hv
        · replace hv := hv.2.2.2 q
          refine sw_iload_n (dX8_spelled.at 19 rfl) rfl rfl ?_
          refine sw_aload_n (dX8_spelled.at 20 rfl) rfl rfl ?_
          refine sw_getR (dX8_spelled.at 21 rfl) fp_X8_65 (S_lt 0 (by decide)) (S_0 nw nx g) rfl rfl ?_
          refine sw_getR (dX8_spelled.at 22 rfl) fp_X8_133 (S_e_lt hnw) (S_e hnw) rfl rfl ?_
          refine sw_iload_n (dX8_spelled.at 23 rfl) rfl rfl ?_
          refine sw_ialdN x (w := ((gL P x : Nat) : Int)) (dX8_spelled.at 24 rfl) (S_ek_lt hnw (by decide)) (S_e_2 hnw) (by decide) (GV_lt hV hv.1) (EL_L hE hv.1) ?_
          replace hv := hv.2
          refine sw_icmpN_lt i (gL P x) (tgt := 49) (dX8_spelled.at 25 rfl) (by decide) hv.1 hv.2.1 (fun q => ?_) (fun q => ?_)
          · replace hv := hv.2.2.1 q
            refine sw_aload_n (dX8_spelled.at 28 rfl) rfl rfl ?_
            refine sw_getR (dX8_spelled.at 29 rfl) fp_X8_65 (S_lt 0 (by decide)) (S_0 nw nx g) rfl rfl ?_
            refine sw_iload_n (dX8_spelled.at 30 rfl) rfl rfl ?_
            refine sw_iload_n (dX8_spelled.at 31 rfl) rfl rfl ?_
            refine sw_callV (B' := B0) (As := [vi (((x : Nat) : Int)), vi (((k : Nat) : Int))]) (mc := 0) (ms := 0) (dX8_spelled.at 32 rfl) lk_X8_149 (S_e_lt hnw) (S_e hnw) rfl rfl (Nat.le_of_ble_eq_true rfl) rfl (Nat.le_refl _) (Nat.le_refl _) ?_
            refine c_X1_row (e := nw) (x0 := x) (k0 := k) (j := j + 0) hnw hE hV hL hv.1 hv.2.1 hv.2.2.1 ?_
            replace hv := hv.2.2.2
            refine sw_aload_n (dX8_spelled.at 33 rfl) rfl rfl ?_
            refine sw_getR (dX8_spelled.at 34 rfl) fp_X8_65 (S_lt 0 (by decide)) (S_0 nw nx g) rfl rfl ?_
            refine sw_getR (dX8_spelled.at 35 rfl) fp_X8_133 (S_e_lt hnw) (S_e hnw) rfl rfl ?_
            refine sw_iload_n (dX8_spelled.at 36 rfl) rfl rfl ?_
            refine sw_ialdN x (w := ((gL P x : Nat) : Int)) (dX8_spelled.at 37 rfl) (S_ek_lt hnw (by decide)) (S_e_2 hnw) (by decide) (GV_lt hV hv.1) (EL_L hE hv.1) ?_
            replace hv := hv.2
            refine sw_iload_n (dX8_spelled.at 38 rfl) rfl rfl ?_
            refine sw_callS (post' := post) (B' := B0) (As := [vl (((rowF P (gL P x) x k 0 : Nat) : Int)), vi (((gL P x : Nat) : Int)), vi (((i : Nat) : Int))]) (mc := 0) (ms := 0) (dX8_spelled.at 39 rfl) lk_X8_153 rfl rfl (Nat.le_of_ble_eq_true rfl) rfl (Nat.le_refl _) (Nat.le_refl _) ?_
            refine c_X8_letterOfRow (r := (rowF P (gL P x) x k 0)) (z := (gL P x)) (i := i) (j := j + 2) hv.1 hv.2.1 hv.2.2.1 ?_
            replace hv := hv.2.2.2
            exact sw_iret (dX8_spelled.at 40 rfl) rfl (Nat.le_refl _) (Nat.le_refl _) hv
          · replace hv := hv.2.2.2 q
            refine sw_iconst (dX8_spelled.at 26 rfl) ?_
            exact sw_iret (dX8_spelled.at 27 rfl) rfl (Nat.le_refl _) (Nat.le_refl _) hv
      · replace hv := hv.2.2 q
        refine sw_bipush (dX8_spelled.at 8 rfl) (by decide) ?_
        exact sw_iret (dX8_spelled.at 9 rfl) rfl (Nat.le_refl _) (Nat.le_refl _) hv

set_option maxHeartbeats 2000000 in
set_option maxRecDepth 20000 in
theorem g_X8_spelled_0 {G : GG} {j nw nx gn : Nat} {g : Nat → Sh} {c : Nat → Nat → Int} {post : Option AV → AM → Prop} {x : Int} {k : Int} {i : Int} {P : GD} (hnw : nw = 21 ∨ nw = 35) (hE : EL c nw P) (hV : GV P) (hL : hLn P)  (hv : (-2147483648 ≤ x ∧ x < 2147483648) ∧ ((((decide (0 ≤ x ∧ x < (gN P : Int))) = false) → post (some (vi ((-2)))) (S nw nx g, 78 + gn, c)) ∧ (((decide (0 ≤ x ∧ x < (gN P : Int))) = true) → (-2147483648 ≤ k ∧ k < 2147483648) ∧ (((k < 0) → post (some (vi ((-2)))) (S nw nx g, 78 + gn, c)) ∧ ((¬ (k < 0)) → (-2147483648 ≤ i ∧ i < 2147483648) ∧ (((0 ≤ i) → (-2147483648 ≤ k ∧ k < 2147483648) ∧ (SW G (j + 3) mX8_spelled 29 [some (vr (0)), some (vi (x)), some (vi (k)), some (vi (i))] [vi (x), vr (nw + 12), vl (k)] (S nw nx g, 78 + gn, c) B0 post)) ∧ ((¬ (0 ≤ i)) → post (some (vi ((-2)))) (S nw nx g, 78 + gn, c)))))))) :
    SW G (j + 3) mX8_spelled 0 [some (vr (0)), some (vi (x)), some (vi (k)), some (vi (i))] [] (S nw nx g, 78 + gn, c) B0 post := by
  refine sw_aload_n (dX8_spelled.at 0 rfl) rfl rfl ?_
  refine sw_iload_n (dX8_spelled.at 1 rfl) rfl rfl ?_
  refine sw_callV (B' := B0) (As := [vi (x)]) (mc := 0) (ms := 0) (dX8_spelled.at 2 rfl) lk_X8_130 (S_lt 0 (by decide)) (S_0 nw nx g) rfl rfl (Nat.le_of_ble_eq_true rfl) rfl (Nat.le_refl _) (Nat.le_refl _) ?_
  refine c_X8_isElementP (x := x) (j := j + 2) hnw hE hV hv.1 ?_
  replace hv := hv.2
  refine sw_if_eq (tgt := 16) (dX8_spelled.at 3 rfl) (by decide) (bz_rng _) (fun q => ?_) (fun q => ?_)
  · replace hv := hv.1 (bz_0 q)
    refine sw_bipush (dX8_spelled.at 8 rfl) (by decide) ?_
    exact sw_iret (dX8_spelled.at 9 rfl) rfl (Nat.le_refl _) (Nat.le_refl _) hv
  · replace hv := hv.2 (bz_n0 q)
    refine sw_iload_n (dX8_spelled.at 4 rfl) rfl rfl ?_
    refine sw_if_lt (tgt := 16) (dX8_spelled.at 5 rfl) (by decide) hv.1 (fun q => ?_) (fun q => ?_)
    · replace hv := hv.2.1 q
      refine sw_bipush (dX8_spelled.at 8 rfl) (by decide) ?_
      exact sw_iret (dX8_spelled.at 9 rfl) rfl (Nat.le_refl _) (Nat.le_refl _) hv
    · replace hv := hv.2.2 q
      refine sw_iload_n (dX8_spelled.at 6 rfl) rfl rfl ?_
      refine sw_if_ge (tgt := 19) (dX8_spelled.at 7 rfl) (by decide) hv.1 (fun q => ?_) (fun q => ?_)
      · replace hv := hv.2.1 q
        refine sw_iload_n (dX8_spelled.at 10 rfl) rfl rfl ?_
        refine sw_i2l (dX8_spelled.at 11 rfl) hv.1 ?_
        replace hv := hv.2
        refine sw_aload_n (dX8_spelled.at 12 rfl) rfl rfl ?_
        refine sw_getR (dX8_spelled.at 13 rfl) fp_X8_65 (S_lt 0 (by decide)) (S_0 nw nx g) rfl rfl ?_
        refine sw_getR (dX8_spelled.at 14 rfl) fp_X8_144 (S_e_lt hnw) (S_e hnw) rfl rfl ?_
        refine sw_iload_n (dX8_spelled.at 15 rfl) rfl rfl ?_
        exact hv
      · replace hv := hv.2.2 q
        refine sw_bipush (dX8_spelled.at 8 rfl) (by decide) ?_
        exact sw_iret (dX8_spelled.at 9 rfl) rfl (Nat.le_refl _) (Nat.le_refl _) hv

set_option maxHeartbeats 4000000 in
theorem c_X8_spelled {G : GG} {j nw nx gn : Nat} {g : Nat → Sh} {c : Nat → Nat → Int} {post : Option AV → AM → Prop} {P : GD} {x k i : Int} (hnw : nw = 21 ∨ nw = 35) (hE : EL c nw P) (hV : GV P) (hL : hLn P) (p1 : -2147483648 ≤ x ∧ x < 2147483648) (p2 : -2147483648 ≤ k ∧ k < 2147483648) (p3 : -2147483648 ≤ i ∧ i < 2147483648) (K : post (some (vi (q_spelled P x k i))) (S nw nx g, 78 + gn, c)) : SM G (j + 4) mX8_spelled [vr (0), vi (x), vi (k), vi (i)] (S nw nx g, 78 + gn, c) 0 0 post := by
  refine sm_of wX8_spelled rfl (Nat.le_of_ble_eq_true rfl) ?_
  have hN60 := GV_N hV
  have hR5 := GV_R hV
  by_cases hv : (0 ≤ x ∧ x < (gN P : Int)) ∧ 0 ≤ k ∧ 0 ≤ i
  · obtain ⟨x, rfl⟩ : ∃ n : Nat, x = (n : Int) := ⟨x.toNat, by omega⟩
    obtain ⟨k, rfl⟩ : ∃ n : Nat, k = (n : Int) := ⟨k.toNat, by omega⟩
    obtain ⟨i, rfl⟩ : ∃ n : Nat, i = (n : Int) := ⟨i.toNat, by omega⟩
    have e : q_spelled P ((x : Nat) : Int) ((k : Nat) : Int) ((i : Nat) : Int) = if k < gW P x ∧ i < gL P x then ((rlF P i x k : Nat) : Int) else (-1) := by
      rw [q_spelled, if_pos hv]
      simp only [Int.toNat_natCast]
    rw [e] at K
    have K1 : ∀ z : Int, z = (if k < gW P x ∧ i < gL P x then ((rlF P i x k : Nat) : Int) else (-1)) → post (some (vi z)) (S nw nx g, 78 + gn, c) := fun z h => h ▸ K
    have hx : x < gN P := by omega
    have fx := hV.2.2.1 x hx
    have hR0 : 0 < gR P := by have := hV.1.2.2.2; omega
    have r9 := rowF_lt hV (n := gL P x) (x := x) (l := k) fx.1
    refine g_X8_spelled_0n hnw hE hV hL ?_
    refine ⟨?_, ⟨fun q => ?_, fun q => ⟨?_, ⟨fun q => ?_, fun q => ⟨?_, ⟨fun q => ⟨?_, ⟨?_, ⟨?_, ?_, ⟨fun q => ?_, fun q => ⟨?_, ⟨?_, ?_, ⟨fun q => ⟨?_, ?_, ?_, ⟨?_, ⟨?_, ?_, ?_, ?_⟩⟩⟩, fun q => ?_⟩⟩⟩⟩⟩⟩⟩, fun q => ?_⟩⟩⟩⟩⟩⟩
    all_goals first | omega | assumption | (exfalso; simp only [decide_eq_true_eq, decide_eq_false_iff_not] at *; omega) | (refine K1 _ ?_; rw [if_neg (by omega)]) | (refine K1 _ ?_; rw [if_pos (by omega), rowF_let hV _ _ _ _ _ (by omega)])
  · have e : q_spelled P x k i = (-2) := by rw [q_spelled, if_neg hv]
    rw [e] at K
    refine g_X8_spelled_0 hnw hE hV hL ?_
    refine ⟨?_, ⟨fun q => ?_, fun q => ⟨?_, ⟨fun q => ?_, fun q => ⟨?_, ⟨fun q => ⟨?_, ?_⟩, fun q => ?_⟩⟩⟩⟩⟩⟩
    all_goals first | exact K | omega | assumption | (exfalso; simp only [decide_eq_true_eq, decide_eq_false_iff_not] at *; omega)

