theorem rsF_pre {P : GD} {x s l : Nat} (hl : l < gRF P x s) : ∀ k t, t + k = gR P - 1 → t ≤ s → s ≤ gR P - 1 → rsF P x k t (preF P x s - preF P x t + l) = (s, l) := by
  have mono : ∀ d t, preF P x t ≤ preF P x (t + d) := by
    intro d
    induction d with
    | zero => intro t; exact Nat.le_refl _
    | succ d ih => intro t; exact Nat.le_trans (ih t) (Nat.le_add_right _ _)
  intro k
  induction k with
  | zero =>
    intro t ht h1 h2
    have e : t = s := by omega
    subst e
    rw [rsF, Nat.sub_self, Nat.zero_add]
  | succ k ih =>
    intro t ht h1 h2
    rw [rsF]
    by_cases e : t = s
    · subst e
      rw [Nat.sub_self, Nat.zero_add, if_pos hl]
    · have m1 : preF P x (t + 1) ≤ preF P x s := by
        have := mono (s - (t + 1)) (t + 1)
        rwa [show t + 1 + (s - (t + 1)) = s by omega] at this
      have m2 : preF P x (t + 1) = preF P x t + gRF P x t := rfl
      rw [if_neg (by omega)]
      have e2 : preF P x s - preF P x t + l - gRF P x t = preF P x s - preF P x (t + 1) + l := by omega
      rw [e2]
      exact ih (t + 1) (by omega) (by omega) h2
theorem rl_0 {P : GD} {x s l : Nat} (hl : l < gRF P x s) (hs : s < gR P) : rlF P 0 x (preF P x s + l) = s := by
  have := rsF_pre hl (gR P - 1) 0 (by omega) (by omega) (by omega)
  rw [show preF P x 0 = 0 from rfl, Nat.sub_zero] at this
  rw [rlF, this]
theorem rl_S {P : GD} {x s l : Nat} (hl : l < gRF P x s) (hs : s < gR P) (i : Nat) : rlF P (i + 1) x (preF P x s + l) = rlF P i (gX P (s + 1) x) l := by
  have := rsF_pre hl (gR P - 1) 0 (by omega) (by omega) (by omega)
  rw [show preF P x 0 = 0 from rfl, Nat.sub_zero] at this
  rw [rlF, this]
theorem rm_up (c : Nat → Nat → Int) (s w : Nat → Int) (r z : Int) : up2 (wr (wr (up2 c 49 27 r) 61 s) 62 w) 49 27 z = wr (wr (up2 c 49 27 z) 61 s) 62 w := by
  funext i k
  simp only [up2, wr]
  by_cases h1 : i = 49
  · subst h1
    by_cases h2 : k = 27
    · subst h2; simp [up2]
    · simp [h2, up2]
  · by_cases h2 : i = 62
    · simp [h2]
    · by_cases h3 : i = 61
      · simp [h3]
      · simp [h1, h2, h3, up2]
abbrev mR (c : Nat → Nat → Int) (s w : Nat → Int) (r : Nat) : Nat → Nat → Int := wr (wr (up2 c 49 27 ((r : Nat) : Int)) 61 s) 62 w
/-- rows 0 to a of those that left has, behind d letters, are laid from r on -/
def RP (P : GD) (l d r a : Nat) (s0 w0 s w : Nat → Int) : Prop :=
  (∀ i, i < d → s i = s0 i) ∧ (∀ q, q < 14 * r → w q = w0 q) ∧
  ∀ k, k < a → (∀ i, i < d → w (14 * (r + k) + i) = s0 i) ∧ ∀ i, i < gL P l → w (14 * (r + k) + (d + i)) = ((rlF P i l k : Nat) : Int)
def cpR (d r : Nat) (s : Nat → Int) : Nat → Nat → (Nat → Int) → Nat → Int
  | 0, _, w => w
  | k + 1, i, w => cpR d r s k (i + 1) (u1 w (14 * r + i) (s i))
theorem cpR_at (d r : Nat) (s : Nat → Int) : ∀ k i w q, cpR d r s k i w q = if 14 * r + i ≤ q ∧ q < 14 * r + i + k then s (q - 14 * r) else w q := by
  intro k
  induction k with
  | zero => intro i w q; rw [cpR, if_neg (by omega)]
  | succ k ih =>
    intro i w q
    rw [cpR, ih]
    by_cases h : 14 * r + (i + 1) ≤ q ∧ q < 14 * r + (i + 1) + k
    · rw [if_pos h, if_pos (by omega)]
    · rw [if_neg h]
      by_cases e : q = 14 * r + i
      · rw [e, u1_eq, if_pos (by omega)]; congr 1; omega
      · rw [u1_ne e, if_neg (by omega)]
theorem RP_leaf {P : GD} {d r : Nat} {s0 w0 : Nat → Int} (h0 : gL P 0 = 0) : RP P 0 d r 1 s0 w0 s0 (cpR d r s0 d 0 w0) := by
  refine ⟨fun _ _ => rfl, fun q hq => by rw [cpR_at, if_neg (by omega)], fun k hk => ⟨fun i hi => ?_, fun i hi => by omega⟩⟩
  rw [cpR_at, if_pos (by omega)]
  congr 1
  omega
theorem RP_start {P : GD} {l d r : Nat} {s0 w0 : Nat → Int} : RP P l d r 0 s0 w0 s0 w0 := ⟨fun _ _ => rfl, fun _ _ => rfl, fun k hk => by omega⟩
theorem RP_step {P : GD} {l d r t : Nat} {s0 w0 s w s2 w2 : Nat → Int} (ht : t < gR P) (hl : gL P l = gL P (gX P (t + 1) l) + 1) (hb : gRF P l t = gW P (gX P (t + 1) l)) (hd : d + gL P l ≤ 14) (h : RP P l d r (preF P l t) s0 w0 s w) (h2 : RP P (gX P (t + 1) l) (d + 1) (r + preF P l t) (gRF P l t) (u1 s d ((t : Nat) : Int)) w s2 w2) : RP P l d r (preF P l (t + 1)) s0 w0 s2 w2 := by
  obtain ⟨a1, a2, a3⟩ := h
  obtain ⟨b1, b2, b3⟩ := h2
  refine ⟨fun i hi => ?_, fun q hq => ?_, fun k hk => ?_⟩
  · rw [b1 i (by omega), u1_ne (by omega), a1 i hi]
  · rw [b2 q (by omega), a2 q hq]
  · by_cases hk2 : k < preF P l t
    · obtain ⟨c1, c2⟩ := a3 k hk2
      refine ⟨fun i hi => ?_, fun i hi => ?_⟩
      · rw [b2 _ (by omega)]; exact c1 i hi
      · rw [b2 _ (by omega)]; exact c2 i hi
    · rw [preF] at hk
      obtain ⟨c1, c2⟩ := b3 (k - preF P l t) (by omega)
      have e1 : r + preF P l t + (k - preF P l t) = r + k := by omega
      have e2 : k = preF P l t + (k - preF P l t) := by omega
      rw [e1] at c1 c2
      refine ⟨fun i hi => ?_, fun i hi => ?_⟩
      · rw [c1 i (by omega), u1_ne (by omega), a1 i hi]
      · cases i with
        | zero =>
          rw [c1 (d + 0) (by omega), Nat.add_zero, u1_eq, e2, rl_0 (by omega) ht]
        | succ i =>
          have := c2 i (by omega)
          rw [show d + 1 + i = d + (i + 1) by omega] at this
          rw [this]
          conv => rhs; rw [e2]
          rw [rl_S (by omega) ht]
theorem RP_skip {P : GD} {l d r t : Nat} {s0 w0 s w : Nat → Int} (hb : gRF P l t = 0) (h : RP P l d r (preF P l t) s0 w0 s w) : RP P l d r (preF P l (t + 1)) s0 w0 s w := by
  rw [preF, hb, Nat.add_zero]; exact h
set_option maxHeartbeats 2000000 in
set_option maxRecDepth 20000 in
theorem g_X9_laysRows_55 {G : GG} {j nw nx gn : Nat} {g : Nat → Sh} {c : Nat → Nat → Int} {post : Option AV → AM → Prop} {x : Nat} {l : Nat} {d : Nat} {P : GD} {s : Nat → Int} {w : Nat → Int} {r : Nat} {t : Nat} (hM : ML c P) (hV : GV P) (hC : GC P) (hrec : ∀ (l2 d2 : Nat) (s w : Nat → Int) (r : Nat) (po : Option AV → AM → Prop), l2 < gN P → gL P l2 < gL P l → d2 + gL P l2 ≤ 14 → r + gW P l2 ≤ 300 → (∀ s1 w1 : Nat → Int, RP P l2 d2 r (gW P l2) s w s1 w1 → po none (S nw nx g, 78 + gn, (wr (wr (up2 c 49 27 (((r + gW P l2) : Nat) : Int)) 61 s1) 62 w1))) → SM G (j + 2) mX9_laysRows [vr 49, vi ((x : Nat) : Int), vi ((l2 : Nat) : Int), vi ((d2 : Nat) : Int)] (S nw nx g, 78 + gn, (wr (wr (up2 c 49 27 (((r) : Nat) : Int)) 61 s) 62 w)) 0 0 po)  (hv : (t < 2147483648) ∧ (gR P < 2147483648) ∧ (((gR P ≤ t) → post none (S nw nx g, 78 + gn, (wr (wr (up2 c 49 27 (((r) : Nat) : Int)) 61 s) 62 w))) ∧ ((¬ (gR P ≤ t)) → (l < gN P) ∧ (t < gR P) ∧ (0 < 2) ∧ (((((dsc P l 0).testBit t) = false) → SW G (j + 2) mX9_laysRows 55 [some (vr (49)), some (vi (((x : Nat) : Int))), some (vi (((l : Nat) : Int))), some (vi (((d : Nat) : Int))), some (vi (((t + 1 : Nat) : Int)))] [] (S nw nx g, 78 + gn, (wr (wr (up2 c 49 27 (((r) : Nat) : Int)) 61 s) 62 w)) B0 post) ∧ ((((dsc P l 0).testBit t) = true) → (d < 14) ∧ ((l < gN P) ∧ (t < gR P) ∧ (((gX P (t + 1) l) < gN P) ∧ (gL P (gX P (t + 1) l) < gL P l) ∧ ((d + 1) + gL P (gX P (t + 1) l) ≤ 14) ∧ ((r) + gW P (gX P (t + 1) l) ≤ 300) ∧ (∀ s_1 w_1 : Nat → Int, RP P (gX P (t + 1) l) (d + 1) (r) (gW P (gX P (t + 1) l)) (u1 s d ((t : Nat) : Int)) w s_1 w_1 → SW G (j + 2) mX9_laysRows 55 [some (vr (49)), some (vi (((x : Nat) : Int))), some (vi (((l : Nat) : Int))), some (vi (((d : Nat) : Int))), some (vi (((t + 1 : Nat) : Int)))] [] (S nw nx g, 78 + gn, (wr (wr (up2 c 49 27 (((r) + gW P (gX P (t + 1) l) : Nat) : Int)) 61 s_1) 62 w_1)) B0 post)))))))) :
    SW G (j + 2) mX9_laysRows 55 [some (vr (49)), some (vi (((x : Nat) : Int))), some (vi (((l : Nat) : Int))), some (vi (((d : Nat) : Int))), some (vi (((t : Nat) : Int)))] [] (S nw nx g, 78 + gn, (wr (wr (up2 c 49 27 (((r) : Nat) : Int)) 61 s) 62 w)) B0 post := by
  refine sw_iload (dX9_laysRows_0.at 31 rfl) rfl ?_
  refine sw_aload_n (dX9_laysRows_0.at 32 rfl) rfl rfl ?_
  refine sw_getIE (w := ((gR P : Nat) : Int)) (dX9_laysRows_0.at 33 rfl) fp_X9_159 (S_lt 49 (by decide)) (S_49 nw nx g) rfl ((wr_off (c := (wr (up2 c 49 27 (((r) : Nat) : Int)) 61 s)) (a := 62) (f := w) (i := 49) (k := 4) (by decide)).trans ((wr_off (c := (up2 c 49 27 (((r) : Nat) : Int))) (a := 61) (f := s) (i := 49) (k := 4) (by decide)).trans ((up2_ne (c := c) (i := 49) (k := 27) (z := (((r) : Nat) : Int)) (i' := 49) (k' := 4) (Or.inr (by decide))).trans hM.1.1))) ?_
  refine sw_icmpN_ge t (gR P) (tgt := 108) (dX9_laysRows_0.at 34 rfl) (by decide) hv.1 hv.2.1 (fun q => ?_) (fun q => ?_)
  · replace hv := hv.2.2.1 q
    exact sw_vret (dX9_laysRows_1.at 12 rfl) rfl (Nat.le_refl _) (Nat.le_refl _) hv
  · replace hv := hv.2.2.2 q
    refine sw_aload_n (dX9_laysRows_0.at 35 rfl) rfl rfl ?_
    refine sw_iload_n (dX9_laysRows_0.at 36 rfl) rfl rfl ?_
    refine sw_iload (dX9_laysRows_0.at 37 rfl) rfl ?_
    refine sw_iconst (dX9_laysRows_0.at 38 rfl) ?_
    refine sw_callV (B' := B0) (As := [vi (((l : Nat) : Int)), vi (((t : Nat) : Int)), vi (0)]) (mc := 0) (ms := 0) (dX9_laysRows_0.at 39 rfl) lk_X9_244 (S_lt 49 (by decide)) (S_49 nw nx g) rfl rfl (Nat.le_of_ble_eq_true rfl) rfl (Nat.le_refl _) (Nat.le_refl _) ?_
    refine c_X9_isShorter (x := l) (s := t) (sd := 0) (j := j + 1) (ML_SC hM (SC_wr (SC_wr (SC_27 SC_rf (z := (((r) : Nat) : Int))) (a := 61) (f := s) (by decide)) (a := 62) (f := w) (by decide))) hV hC hv.1 hv.2.1 hv.2.2.1 ?_
    replace hv := hv.2.2.2
    refine sw_if_eq (tgt := 102) (dX9_laysRows_0.at 40 rfl) (by decide) (bz_rng _) (fun q => ?_) (fun q => ?_)
    · replace hv := hv.1 (bz_0 q)
      refine sw_iinc (lo' := [some (vr (49)), some (vi (((x : Nat) : Int))), some (vi (((l : Nat) : Int))), some (vi (((d : Nat) : Int))), some (vi (((t + 1 : Nat) : Int)))]) (dX9_laysRows_1.at 10 rfl) rfl (by decide) rfl ?_
      refine sw_goto (tgt := 55) (dX9_laysRows_1.at 11 rfl) (by decide) ?_
      exact hv
    · replace hv := hv.2 (bz_n0 q)
      refine sw_aload_n (dX9_laysRows_0.at 41 rfl) rfl rfl ?_
      refine sw_getR (dX9_laysRows_0.at 42 rfl) fp_X9_47 (S_lt 49 (by decide)) (S_49 nw nx g) rfl rfl ?_
      refine sw_iload_n (dX9_laysRows_0.at 43 rfl) rfl rfl ?_
      refine sw_iload (dX9_laysRows_0.at 44 rfl) rfl ?_
      refine sw_iastN d (dX9_laysRows_0.at 45 rfl) (S_lt 61 (by decide)) (S_61 nw nx g) (by decide) hv.1 ?_
      refine SW.cg (M' := (S nw nx g, 78 + gn, (wr (wr (up2 c 49 27 (((r) : Nat) : Int)) 61 (u1 s d ((t : Nat) : Int))) 62 w))) (congrArg (fun m => (S nw nx g, 78 + gn, m)) ((wr_up_in (wr (up2 c 49 27 (((r) : Nat) : Int)) 61 s) 62 w 61 d ((t : Nat) : Int) (by decide)).trans (congrArg (fun m => wr m 62 w) (wr_up (up2 c 49 27 (((r) : Nat) : Int)) 61 s d ((t : Nat) : Int))))) ?_
      replace hv := hv.2
      refine sw_aload_n (dX9_laysRows_0.at 46 rfl) rfl rfl ?_
      refine sw_iload_n (dX9_laysRows_0.at 47 rfl) rfl rfl ?_
      refine sw_aload_n (dX9_laysRows_0.at 48 rfl) rfl rfl ?_
      refine sw_getR (dX9_laysRows_0.at 49 rfl) fp_X9_29 (S_lt 49 (by decide)) (S_49 nw nx g) rfl rfl ?_
      refine sw_iconst (dX9_laysRows_1.at 0 rfl) ?_
      refine sw_iload_n (dX9_laysRows_1.at 1 rfl) rfl rfl ?_
      refine sw_imul (dX9_laysRows_1.at 2 rfl) ?_
      refine sw_topI (y := ((5 * l : Nat) : Int)) (by first | rfl | (congr 1)) ?_
      refine sw_iload (dX9_laysRows_1.at 3 rfl) rfl ?_
      refine sw_iadd (dX9_laysRows_1.at 4 rfl) ?_
      refine sw_topI (y := (((5 * l) + t : Nat) : Int)) (by first | rfl | (congr 1)) ?_
      refine sw_ialdN ((5 * l) + t) (w := ((gX P (t + 1) l : Nat) : Int)) (dX9_laysRows_1.at 5 rfl) (S_lt 55 (by decide)) (S_55 nw nx g) (by decide) (GV_5 hV hv.1 hv.2.1) (ML_Ah (ML_SC hM (SC_wr (SC_wr (SC_27 SC_rf (z := (((r) : Nat) : Int))) (a := 61) (f := (u1 s d ((t : Nat) : Int))) (by decide)) (a := 62) (f := w) (by decide))) hv.1 hv.2.1) ?_
      replace hv := hv.2.2
      refine sw_iload_n (dX9_laysRows_1.at 6 rfl) rfl rfl ?_
      refine sw_iconst (dX9_laysRows_1.at 7 rfl) ?_
      refine sw_iadd (dX9_laysRows_1.at 8 rfl) ?_
      refine sw_topI (y := ((d + 1 : Nat) : Int)) (by first | rfl | (congr 1)) ?_
      refine sw_callV (B' := B0) (As := [vi (((x : Nat) : Int)), vi (((gX P (t + 1) l : Nat) : Int)), vi (((d + 1 : Nat) : Int))]) (mc := 0) (ms := 0) (dX9_laysRows_1.at 9 rfl) lk_X9_264 (S_lt 49 (by decide)) (S_49 nw nx g) rfl rfl (Nat.le_of_ble_eq_true rfl) rfl (Nat.le_refl _) (Nat.le_refl _) ?_
      refine hrec (gX P (t + 1) l) (d + 1) (u1 s d ((t : Nat) : Int)) w (r) _ hv.1 hv.2.1 hv.2.2.1 hv.2.2.2.1 (fun s_1 w_1 h_1 => ?_)
      replace hv := hv.2.2.2.2 s_1 w_1 h_1
      refine sw_iinc (lo' := [some (vr (49)), some (vi (((x : Nat) : Int))), some (vi (((l : Nat) : Int))), some (vi (((d : Nat) : Int))), some (vi (((t + 1 : Nat) : Int)))]) (dX9_laysRows_1.at 10 rfl) rfl (by decide) rfl ?_
      refine sw_goto (tgt := 55) (dX9_laysRows_1.at 11 rfl) (by decide) ?_
      exact hv

set_option maxHeartbeats 2000000 in
set_option maxRecDepth 20000 in
theorem g_X9_laysRows_7 {G : GG} {j nw nx gn : Nat} {g : Nat → Sh} {c : Nat → Nat → Int} {post : Option AV → AM → Prop} {x : Nat} {l : Nat} {d : Nat} {P : GD} {s : Nat → Int} {w : Nat → Int} {r : Nat} {t : Nat} (hM : ML c P) (hV : GV P) (hC : GC P)  (hv : (t < 2147483648) ∧ (d < 2147483648) ∧ (((d ≤ t) → post none (S nw nx g, 78 + gn, (wr (wr (up2 c 49 27 ((((r) + 1 : Nat) : Int))) 61 s) 62 w))) ∧ ((¬ (d ≤ t)) → (t < 14) ∧ (((14 * (r)) + t < 4200) ∧ (SW G (j + 2) mX9_laysRows 7 [some (vr (49)), some (vi (((x : Nat) : Int))), some (vi (((l : Nat) : Int))), some (vi (((d : Nat) : Int))), some (vi (((t + 1 : Nat) : Int)))] [] (S nw nx g, 78 + gn, (wr (wr (up2 c 49 27 (((r) : Nat) : Int)) 61 s) 62 (u1 w ((14 * (r)) + t) (s t)))) B0 post))))) :
    SW G (j + 2) mX9_laysRows 7 [some (vr (49)), some (vi (((x : Nat) : Int))), some (vi (((l : Nat) : Int))), some (vi (((d : Nat) : Int))), some (vi (((t : Nat) : Int)))] [] (S nw nx g, 78 + gn, (wr (wr (up2 c 49 27 (((r) : Nat) : Int)) 61 s) 62 w)) B0 post := by
  refine sw_iload (dX9_laysRows_0.at 4 rfl) rfl ?_
  refine sw_iload_n (dX9_laysRows_0.at 5 rfl) rfl rfl ?_
  refine sw_icmpN_ge t d (tgt := 41) (dX9_laysRows_0.at 6 rfl) (by decide) hv.1 hv.2.1 (fun q => ?_) (fun q => ?_)
  · replace hv := hv.2.2.1 q
    refine sw_aload_n (dX9_laysRows_0.at 22 rfl) rfl rfl ?_
    refine sw_dup (dX9_laysRows_0.at 23 rfl) (fun _ h => by cases h) ?_
    refine sw_getIE (w := (((r) : Nat) : Int)) (dX9_laysRows_0.at 24 rfl) fp_X9_261 (S_lt 49 (by decide)) (S_49 nw nx g) rfl ((wr_off (c := (wr (up2 c 49 27 (((r) : Nat) : Int)) 61 s)) (a := 62) (f := w) (i := 49) (k := 27) (by decide)).trans ((wr_off (c := (up2 c 49 27 (((r) : Nat) : Int))) (a := 61) (f := s) (i := 49) (k := 27) (by decide)).trans (up2_eq c 49 27 (((r) : Nat) : Int)))) ?_
    refine sw_iconst (dX9_laysRows_0.at 25 rfl) ?_
    refine sw_iadd (dX9_laysRows_0.at 26 rfl) ?_
    refine sw_topI (y := (((r) + 1 : Nat) : Int)) (by first | rfl | (congr 1)) ?_
    refine sw_putI (dX9_laysRows_0.at 27 rfl) fp_X9_261 (S_lt 49 (by decide)) (S_49 nw nx g) rfl ?_
    refine SW.cg (M' := (S nw nx g, 78 + gn, (wr (wr (up2 c 49 27 ((((r) + 1 : Nat) : Int))) 61 s) 62 w))) (congrArg (fun m => (S nw nx g, 78 + gn, m)) (rm_up c s w (((r) : Nat) : Int) ((((r) + 1 : Nat) : Int)))) ?_
    exact sw_vret (dX9_laysRows_0.at 28 rfl) rfl (Nat.le_refl _) (Nat.le_refl _) hv
  · replace hv := hv.2.2.2 q
    refine sw_aload_n (dX9_laysRows_0.at 7 rfl) rfl rfl ?_
    refine sw_getR (dX9_laysRows_0.at 8 rfl) fp_X9_50 (S_lt 49 (by decide)) (S_49 nw nx g) rfl rfl ?_
    refine sw_bipush (dX9_laysRows_0.at 9 rfl) (by decide) ?_
    refine sw_aload_n (dX9_laysRows_0.at 10 rfl) rfl rfl ?_
    refine sw_getIE (w := (((r) : Nat) : Int)) (dX9_laysRows_0.at 11 rfl) fp_X9_261 (S_lt 49 (by decide)) (S_49 nw nx g) rfl ((wr_off (c := (wr (up2 c 49 27 (((r) : Nat) : Int)) 61 s)) (a := 62) (f := w) (i := 49) (k := 27) (by decide)).trans ((wr_off (c := (up2 c 49 27 (((r) : Nat) : Int))) (a := 61) (f := s) (i := 49) (k := 27) (by decide)).trans (up2_eq c 49 27 (((r) : Nat) : Int)))) ?_
    refine sw_imul (dX9_laysRows_0.at 12 rfl) ?_
    refine sw_topI (y := ((14 * (r) : Nat) : Int)) (by first | rfl | (congr 1)) ?_
    refine sw_iload (dX9_laysRows_0.at 13 rfl) rfl ?_
    refine sw_iadd (dX9_laysRows_0.at 14 rfl) ?_
    refine sw_topI (y := (((14 * (r)) + t : Nat) : Int)) (by first | rfl | (congr 1)) ?_
    refine sw_aload_n (dX9_laysRows_0.at 15 rfl) rfl rfl ?_
    refine sw_getR (dX9_laysRows_0.at 16 rfl) fp_X9_47 (S_lt 49 (by decide)) (S_49 nw nx g) rfl rfl ?_
    refine sw_iload (dX9_laysRows_0.at 17 rfl) rfl ?_
    refine sw_ialdN t (w := s t) (dX9_laysRows_0.at 18 rfl) (S_lt 61 (by decide)) (S_61 nw nx g) (by decide) hv.1 rfl ?_
    replace hv := hv.2
    refine sw_iastN ((14 * (r)) + t) (dX9_laysRows_0.at 19 rfl) (S_lt 62 (by decide)) (S_62 nw nx g) (by decide) hv.1 ?_
    refine SW.cg (M' := (S nw nx g, 78 + gn, (wr (wr (up2 c 49 27 (((r) : Nat) : Int)) 61 s) 62 (u1 w ((14 * (r)) + t) (s t))))) (congrArg (fun m => (S nw nx g, 78 + gn, m)) (wr_up (wr (up2 c 49 27 (((r) : Nat) : Int)) 61 s) 62 w ((14 * (r)) + t) (s t))) ?_
    replace hv := hv.2
    refine sw_iinc (lo' := [some (vr (49)), some (vi (((x : Nat) : Int))), some (vi (((l : Nat) : Int))), some (vi (((d : Nat) : Int))), some (vi (((t + 1 : Nat) : Int)))]) (dX9_laysRows_0.at 20 rfl) rfl (by decide) rfl ?_
    refine sw_goto (tgt := 7) (dX9_laysRows_0.at 21 rfl) (by decide) ?_
    exact hv

set_option maxHeartbeats 2000000 in
set_option maxRecDepth 20000 in
theorem g_X9_laysRows_0 {G : GG} {j nw nx gn : Nat} {g : Nat → Sh} {c : Nat → Nat → Int} {post : Option AV → AM → Prop} {x : Nat} {l : Nat} {d : Nat} {P : GD} {s : Nat → Int} {w : Nat → Int} {r : Nat} (hM : ML c P) (hV : GV P) (hC : GC P)  (hv : (l < 2147483648) ∧ (((l ≠ 0) → SW G (j + 2) mX9_laysRows 55 [some (vr (49)), some (vi (((x : Nat) : Int))), some (vi (((l : Nat) : Int))), some (vi (((d : Nat) : Int))), some (vi (0))] [] (S nw nx g, 78 + gn, (wr (wr (up2 c 49 27 (((r) : Nat) : Int)) 61 s) 62 w)) B0 post) ∧ ((l = 0) → SW G (j + 2) mX9_laysRows 7 [some (vr (49)), some (vi (((x : Nat) : Int))), some (vi (((l : Nat) : Int))), some (vi (((d : Nat) : Int))), some (vi (0))] [] (S nw nx g, 78 + gn, (wr (wr (up2 c 49 27 (((r) : Nat) : Int)) 61 s) 62 w)) B0 post))) :
    SW G (j + 2) mX9_laysRows 0 [some (vr (49)), some (vi (((x : Nat) : Int))), some (vi (((l : Nat) : Int))), some (vi (((d : Nat) : Int))), none] [] (S nw nx g, 78 + gn, (wr (wr (up2 c 49 27 (((r) : Nat) : Int)) 61 s) 62 w)) B0 post := by
  refine sw_iload_n (dX9_laysRows_0.at 0 rfl) rfl rfl ?_
  refine sw_ifN_ne l (tgt := 52) (dX9_laysRows_0.at 1 rfl) (by decide) hv.1 (fun q => ?_) (fun q => ?_)
  · replace hv := hv.2.1 q
    refine sw_iconst (dX9_laysRows_0.at 29 rfl) ?_
    refine sw_istore (lo' := [some (vr (49)), some (vi (((x : Nat) : Int))), some (vi (((l : Nat) : Int))), some (vi (((d : Nat) : Int))), some (vi (0))]) (dX9_laysRows_0.at 30 rfl) (by decide) rfl ?_
    exact hv
  · replace hv := hv.2.2 q
    refine sw_iconst (dX9_laysRows_0.at 2 rfl) ?_
    refine sw_istore (lo' := [some (vr (49)), some (vi (((x : Nat) : Int))), some (vi (((l : Nat) : Int))), some (vi (((d : Nat) : Int))), some (vi (0))]) (dX9_laysRows_0.at 3 rfl) (by decide) rfl ?_
    exact hv

set_option maxHeartbeats 4000000 in
theorem lp_X9_laysRows_7 {G : GG} {j nw nx gn : Nat} {g : Nat → Sh} {c : Nat → Nat → Int} {post : Option AV → AM → Prop} {P : GD} {x l d : Nat} {s : Nat → Int} {r : Nat} (hM : ML c P) (hV : GV P) (hC : GC P) (hd : d ≤ 14) (hr : r < 300) : ∀ (k t : Nat) (w : Nat → Int), t + k = d → post none (S nw nx g, 78 + gn, (wr (wr (up2 c 49 27 (((r + 1) : Nat) : Int)) 61 s) 62 (cpR d r s k t w))) → SW G (j + 2) mX9_laysRows 7 [some (vr (49)), some (vi (((x : Nat) : Int))), some (vi (((l : Nat) : Int))), some (vi (((d : Nat) : Int))), some (vi (((t : Nat) : Int)))] [] (S nw nx g, 78 + gn, (wr (wr (up2 c 49 27 (((r) : Nat) : Int)) 61 s) 62 w)) B0 post := by
  intro k
  induction k with
  | zero =>
    intro t w ht K
    rw [cpR] at K
    refine g_X9_laysRows_7 hM hV hC ?_
    refine ⟨?_, ?_, ⟨fun q => ?_, fun q => ⟨?_, ⟨?_, ?_⟩⟩⟩⟩
    all_goals first | omega | exact K | (exfalso; omega)
  | succ k ih =>
    intro t w ht K
    rw [cpR] at K
    refine g_X9_laysRows_7 hM hV hC ?_
    refine ⟨?_, ?_, ⟨fun q => ?_, fun q => ⟨?_, ⟨?_, ?_⟩⟩⟩⟩
    all_goals first | omega | (exfalso; omega) | exact ih _ _ (by omega) K
theorem gRF_bit {P : GD} {x s : Nat} (h : (gF P x).testBit s = true) : gRF P x s = gW P (gX P (s + 1) x) := by rw [gRF, if_pos h]
theorem gRF_no {P : GD} {x s : Nat} (h : (gF P x).testBit s = false) : gRF P x s = 0 := by rw [gRF, if_neg (by rw [h]; decide)]
theorem preF_le {P : GD} {x : Nat} : ∀ d t, preF P x t ≤ preF P x (t + d) := by
  intro d
  induction d with
  | zero => intro t; exact Nat.le_refl _
  | succ d ih => intro t; exact Nat.le_trans (ih t) (Nat.le_add_right _ _)
set_option maxHeartbeats 4000000 in
theorem lp_X9_laysRows_55 {G : GG} {j nw nx gn : Nat} {g : Nat → Sh} {c : Nat → Nat → Int} {post : Option AV → AM → Prop} {P : GD} {x l d : Nat} {s0 w0 : Nat → Int} {r : Nat} (hM : ML c P) (hV : GV P) (hC : GC P) (hrec : ∀ (l2 d2 : Nat) (s w : Nat → Int) (r : Nat) (po : Option AV → AM → Prop), l2 < gN P → gL P l2 < gL P l → d2 + gL P l2 ≤ 14 → r + gW P l2 ≤ 300 → (∀ s1 w1 : Nat → Int, RP P l2 d2 r (gW P l2) s w s1 w1 → po none (S nw nx g, 78 + gn, (wr (wr (up2 c 49 27 (((r + gW P l2) : Nat) : Int)) 61 s1) 62 w1))) → SM G (j + 2) mX9_laysRows [vr 49, vi ((x : Nat) : Int), vi ((l2 : Nat) : Int), vi ((d2 : Nat) : Int)] (S nw nx g, 78 + gn, (wr (wr (up2 c 49 27 (((r) : Nat) : Int)) 61 s) 62 w)) 0 0 po) (hS : hSp P) (hl : l < gN P) (h0 : 0 < l) (hd : d + gL P l ≤ 14) (hr : r + gW P l ≤ 300) (K : ∀ s1 w1 : Nat → Int, RP P l d r (gW P l) s0 w0 s1 w1 → post none (S nw nx g, 78 + gn, (wr (wr (up2 c 49 27 (((r + gW P l) : Nat) : Int)) 61 s1) 62 w1))) : ∀ (k t : Nat) (s w : Nat → Int), t + k = gR P → RP P l d r (preF P l t) s0 w0 s w → SW G (j + 2) mX9_laysRows 55 [some (vr (49)), some (vi (((x : Nat) : Int))), some (vi (((l : Nat) : Int))), some (vi (((d : Nat) : Int))), some (vi (((t : Nat) : Int)))] [] (S nw nx g, 78 + gn, (wr (wr (up2 c 49 27 (((r + preF P l t) : Nat) : Int)) 61 s) 62 w)) B0 post := by
  have h5 := GV_R hV
  have hW := (hS.2 l h0 hl).2
  intro k
  induction k with
  | zero =>
    intro t s w ht h
    have e : t = gR P := by omega
    subst e
    rw [hW] at h
    have K2 := K s w h
    rw [← hW] at K2
    refine g_X9_laysRows_55 hM hV hC hrec ?_
    refine ⟨?_, ?_, ⟨fun q => ?_, fun q => ⟨?_, ?_, ?_, ⟨fun q => ?_, fun q => ⟨?_, ⟨?_, ?_, ⟨?_, ?_, ?_, ?_, fun s_1 w_1 h_1 => ?_⟩⟩⟩⟩⟩⟩⟩
    all_goals first | omega | exact K2 | (exfalso; omega)
  | succ k ih =>
    intro t s w ht h
    have n1 := hC.1.2 t (by omega)
    have n2 := hV.2.2.2.2.1 _ _ n1 hl
    have d9 := (hC.2.2.2.1 l t hl (by omega)).2
    have l9 := hC.2.2.2.2.2 l t hl (by omega)
    have m1 : preF P l (t + 1) ≤ preF P l (gR P) := by
      have := preF_le (P := P) (x := l) k (t + 1)
      rwa [show t + 1 + k = gR P by omega] at this
    have m2 : preF P l (t + 1) = preF P l t + gRF P l t := rfl
    have gl9 := (gL_0 hC hl)
    refine g_X9_laysRows_55 hM hV hC hrec ?_
    rw [show dsc P l 0 = gF P l from rfl]
    cases hb : (gF P l).testBit t with
    | false =>
      have i9 := ih (t + 1) s w (by omega) (RP_skip (gRF_no hb) h)
      rw [m2, gRF_no hb, Nat.add_zero] at i9
      refine ⟨?_, ?_, ⟨fun q => ?_, fun q => ⟨?_, ?_, ?_, ⟨fun q => ?_, fun q => ⟨?_, ⟨?_, ?_, ⟨?_, ?_, ?_, ?_, fun s_1 w_1 h_1 => ?_⟩⟩⟩⟩⟩⟩⟩
      all_goals first | omega | exact i9 | exact absurd q (by decide) | (exfalso; omega)
    | true =>
      rw [hb] at d9
      have l8 := of_decide_eq_true d9.symm
      have e9 := gRF_bit hb
      have i9 := fun s1 w1 h1 => ih (t + 1) s1 w1 (by omega) (RP_step (s2 := s1) (w2 := w1) (by omega) (by omega) e9 hd h h1)
      rw [m2, e9] at i9
      simp only [← Nat.add_assoc] at i9
      refine ⟨?_, ?_, ⟨fun q => ?_, fun q => ⟨?_, ?_, ?_, ⟨fun q => ?_, fun q => ⟨?_, ⟨?_, ?_, ⟨?_, ?_, ?_, ?_, fun s_1 w_1 h_1 => ?_⟩⟩⟩⟩⟩⟩⟩
      all_goals first | omega | (exfalso; omega) | assumption | exact absurd q (by decide) | exact i9 _ _ h_1
set_option maxHeartbeats 4000000 in
theorem c_X9_laysRowsR {G : GG} {nw nx gn : Nat} {g : Nat → Sh} {c : Nat → Nat → Int}  {P : GD} {x : Nat} (hM : ML c P) (hV : GV P) (hC : GC P) (hS : hSp P) : ∀ (L j l d : Nat) (s w : Nat → Int) (r : Nat) (po : Option AV → AM → Prop), l < gN P → gL P l ≤ L → d + gL P l ≤ 14 → r + gW P l ≤ 300 → (∀ s1 w1 : Nat → Int, RP P l d r (gW P l) s w s1 w1 → po none (S nw nx g, 78 + gn, (wr (wr (up2 c 49 27 (((r + gW P l) : Nat) : Int)) 61 s1) 62 w1))) → SM G (j + L + 3) mX9_laysRows [vr 49, vi ((x : Nat) : Int), vi ((l : Nat) : Int), vi ((d : Nat) : Int)] (S nw nx g, 78 + gn, (wr (wr (up2 c 49 27 (((r) : Nat) : Int)) 61 s) 62 w)) 0 0 po := by
  have h60 := GV_N hV
  have base : ∀ (j d : Nat) (s w : Nat → Int) (r : Nat) (po : Option AV → AM → Prop), d ≤ 14 → r + gW P 0 ≤ 300 → (∀ s1 w1 : Nat → Int, RP P 0 d r (gW P 0) s w s1 w1 → po none (S nw nx g, 78 + gn, (wr (wr (up2 c 49 27 (((r + gW P 0) : Nat) : Int)) 61 s1) 62 w1))) → SM G (j + 3) mX9_laysRows [vr 49, vi ((x : Nat) : Int), vi ((0 : Nat) : Int), vi ((d : Nat) : Int)] (S nw nx g, 78 + gn, (wr (wr (up2 c 49 27 (((r) : Nat) : Int)) 61 s) 62 w)) 0 0 po := by
    intro j d s w r po hd hr K
    rw [hS.1] at K hr
    refine sm_of wX9_laysRows rfl (Nat.le_of_ble_eq_true rfl) ?_
    refine g_X9_laysRows_0 (j := j) (l := 0) hM hV hC ?_
    refine ⟨?_, ⟨fun q => ?_, fun q => ?_⟩⟩
    all_goals first | omega | (exfalso; omega) | exact lp_X9_laysRows_7 (j := j) hM hV hC hd (by omega) d 0 w (by omega) (K _ _ (RP_leaf hC.2.1.1))
  intro L
  induction L with
  | zero =>
    intro j l d s w r po hl hL hd hr K
    have e := (gL_0 hC hl).mp (by omega)
    subst e
    exact base j d s w r po (by omega) hr K
  | succ L ih =>
    intro j l d s w r po hl hL hd hr K
    have e1 : j + (L + 1) + 3 = (j + L + 1) + 3 := by omega
    rw [e1]
    by_cases h0 : l = 0
    · subst h0
      exact base (j + L + 1) d s w r po (by omega) hr K
    · refine sm_of wX9_laysRows rfl (Nat.le_of_ble_eq_true rfl) ?_
      refine g_X9_laysRows_0 (j := j + L + 1) hM hV hC ?_
      refine ⟨?_, ⟨fun q => ?_, fun q => ?_⟩⟩
      all_goals first | omega | (exfalso; omega) | exact lp_X9_laysRows_55 (j := j + L + 1) hM hV hC (fun l2 d2 s w r po h1 h2 h3 h4 h5 => (show j + L + 1 + 2 = j + L + 3 by omega) ▸ ih j l2 d2 s w r po h1 (by omega) h3 h4 h5) hS hl (by omega) hd hr K (gR P) 0 s w (by omega) RP_start

