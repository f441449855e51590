def AT (P : GD) (T : PT) (w : Nat) (f : Nat → Int) : Prop := ∀ v w2 k, v < gN P → w2 < w → k < 8 → f ((v * 60 + w2) * 8 + k) = T v w2 k
/-- T is the group's table -/
def HT (P : GD) (T : PT) : Prop :=
  (∀ v k, v < gN P → k < 8 → T v 0 k = if v = 0 ∧ k = 0 then 1 else 0) ∧
  (∀ w f, 0 < w → w < gN P → AT P T w f → (∀ v k, v < gN P → k < 8 → f ((v * 60 + w) * 8 + k) = 0) → FC P w f ∧ AT P T (w + 1) (flS P w f)) ∧
  ∀ v w k, v < gN P → w < gN P → k < 8 → 0 ≤ T v w k ∧ T v w k < 1000
def PR (P : GD) (T : PT) (c : Nat → Nat → Int) : Prop := c 5 1 = 0 ∨ (c 5 1 = 1 ∧ AT P T (gN P) (c 6))
theorem AT_cl {P : GD} {T : PT} {w : Nat} {f : Nat → Int} (hN : gN P ≤ 60) (hw : w < gN P) (h : AT P T w f) : AT P T w (clS f w (gN P) 0) := by
  intro v w2 k hv hw2 hk
  rw [clS, if_neg (by omega)]
  exact h v w2 k hv hw2 hk
theorem cl_0 {P : GD} {w : Nat} {f : Nat → Int} (hN : gN P ≤ 60) (hw : w < gN P) : ∀ v k, v < gN P → k < 8 → clS f w (gN P) 0 ((v * 60 + w) * 8 + k) = 0 := by
  intro v k hv hk
  rw [clS, if_pos (by omega)]
theorem AT_1 {P : GD} {T : PT} {f : Nat → Int} (hN : gN P ≤ 60) (hT : HT P T) (hw : 0 < gN P) : AT P T 1 (u1 (clS f 0 (gN P) 0) 0 1) := by
  intro v w2 k hv hw2 hk
  have e : w2 = 0 := by omega
  subst e
  rw [hT.1 v k hv hk]
  by_cases h : v = 0 ∧ k = 0
  · rw [if_pos h, h.1, h.2]; rfl
  · rw [if_neg h, u1_ne (by omega)]; exact cl_0 hN hw v k hv hk
set_option maxHeartbeats 2000000 in
set_option maxRecDepth 20000 in
theorem g_X4_prepare_0 {G : GG} {j nw nx gn : Nat} {g : Nat → Sh} {c : Nat → Nat → Int} {post : Option AV → AM → Prop} {e : Nat} (he : e = 21 ∨ e = 35)  (hv : (-2147483648 ≤ c 5 1 ∧ c 5 1 < 2147483648) ∧ (((c 5 1 = 0) → SW G (j + 4) mX4_prepare 15 [some (vr (5)), some (vr (e)), some (vi (0))] [] (S nw nx g, 78 + gn, (up2 c 5 1 1)) B0 post) ∧ ((¬ (c 5 1 = 0)) → post none (S nw nx g, 78 + gn, c)))) :
    SW G (j + 4) mX4_prepare 0 [some (vr (5)), some (vr (e)), none] [] (S nw nx g, 78 + gn, c) B0 post := by
  refine sw_aload_n (dX4_prepare.at 0 rfl) rfl rfl ?_
  refine sw_getI (dX4_prepare.at 1 rfl) fp_X4_15 (S_lt 5 (by decide)) (S_5 nw nx g) rfl ?_
  refine sw_if_eq (tgt := 8) (dX4_prepare.at 2 rfl) (by decide) hv.1 (fun q => ?_) (fun q => ?_)
  · replace hv := hv.2.1 q
    refine sw_aload_n (dX4_prepare.at 4 rfl) rfl rfl ?_
    refine sw_iconst (dX4_prepare.at 5 rfl) ?_
    refine sw_putZ (dX4_prepare.at 6 rfl) fp_X4_15 (S_lt 5 (by decide)) (S_5 nw nx g) rfl (by decide) ?_
    refine sw_iconst (dX4_prepare.at 7 rfl) ?_
    refine sw_istore_n (lo' := [some (vr (5)), some (vr (e)), some (vi (0))]) (dX4_prepare.at 8 rfl) rfl (by decide) rfl ?_
    exact hv
  · replace hv := hv.2.2 q
    exact sw_vret (dX4_prepare.at 3 rfl) rfl (Nat.le_refl _) (Nat.le_refl _) hv

set_option maxHeartbeats 2000000 in
set_option maxRecDepth 20000 in
theorem g_X4_prepare_15 {G : GG} {j nw nx gn : Nat} {g : Nat → Sh} {c : Nat → Nat → Int} {post : Option AV → AM → Prop} {e : Nat} (he : e = 21 ∨ e = 35) {P : GD} {w : Nat} {f : Nat → Int} (hE : EL c e P) (hV : GV P)  (hv : (w < 2147483648) ∧ (gN P < 2147483648) ∧ (((gN P ≤ w) → post none (S nw nx g, 78 + gn, (wr c 6 f))) ∧ ((¬ (gN P ≤ w)) → ((gN P) ≤ 60) ∧ (w < 60) ∧ ((w < 2147483648) ∧ (((w ≠ 0) → (w < gN P) ∧ (FC P w ((wr (wr c 6 f) 6 (clS ((wr c 6 f) 6) w (gN P) 0)) 6)) ∧ (SW G (j + 4) mX4_prepare 15 [some (vr (5)), some (vr (e)), some (vi (((w + 1 : Nat) : Int)))] [] (S nw nx g, 78 + gn, (wr (wr (wr c 6 f) 6 (clS ((wr c 6 f) 6) w (gN P) 0)) 6 (flS P w ((wr (wr c 6 f) 6 (clS ((wr c 6 f) 6) w (gN P) 0)) 6)))) B0 post)) ∧ ((w = 0) → SW G (j + 4) mX4_prepare 15 [some (vr (5)), some (vr (e)), some (vi (((w + 1 : Nat) : Int)))] [] (S nw nx g, 78 + gn, (wr (wr c 6 f) 6 (u1 (clS ((wr c 6 f) 6) w (gN P) 0) 0 1))) B0 post)))))) :
    SW G (j + 4) mX4_prepare 15 [some (vr (5)), some (vr (e)), some (vi (((w : Nat) : Int)))] [] (S nw nx g, 78 + gn, (wr c 6 f)) B0 post := by
  refine sw_iload_n (dX4_prepare.at 9 rfl) rfl rfl ?_
  refine sw_aload_n (dX4_prepare.at 10 rfl) rfl rfl ?_
  refine sw_getIE (w := ((gN P : Nat) : Int)) (dX4_prepare.at 11 rfl) fp_X4_19 (S_e_lt he) (S_e he) rfl ((wr_off (c := c) (a := 6) (f := f) (i := e) (k := 14) (by omega)).trans (EL_N hE)) ?_
  refine sw_icmpN_ge w (gN P) (tgt := 58) (dX4_prepare.at 12 rfl) (by decide) hv.1 hv.2.1 (fun q => ?_) (fun q => ?_)
  · replace hv := hv.2.2.1 q
    exact sw_vret (dX4_prepare.at 32 rfl) rfl (Nat.le_refl _) (Nat.le_refl _) hv
  · replace hv := hv.2.2.2 q
    refine sw_aload_n (dX4_prepare.at 13 rfl) rfl rfl ?_
    refine sw_aload_n (dX4_prepare.at 14 rfl) rfl rfl ?_
    refine sw_getIE (w := ((gN P : Nat) : Int)) (dX4_prepare.at 15 rfl) fp_X4_19 (S_e_lt he) (S_e he) rfl ((wr_off (c := c) (a := 6) (f := f) (i := e) (k := 14) (by omega)).trans (EL_N hE)) ?_
    refine sw_iload_n (dX4_prepare.at 16 rfl) rfl rfl ?_
    refine sw_callV (B' := B0) (As := [vi (((gN P : Nat) : Int)), vi (((w : Nat) : Int))]) (mc := 0) (ms := 0) (dX4_prepare.at 17 rfl) lk_X4_25 (S_lt 5 (by decide)) (S_5 nw nx g) rfl rfl (Nat.le_of_ble_eq_true rfl) rfl (Nat.le_refl _) (Nat.le_refl _) ?_
    refine c_X4_clearColumn (m := (gN P)) (w := w) (j := j + 3) hv.1 hv.2.1 ?_
    replace hv := hv.2.2
    refine sw_iload_n (dX4_prepare.at 18 rfl) rfl rfl ?_
    refine sw_ifN_ne w (tgt := 46) (dX4_prepare.at 19 rfl) (by decide) hv.1 (fun q => ?_) (fun q => ?_)
    · replace hv := hv.2.1 q
      refine sw_aload_n (dX4_prepare.at 26 rfl) rfl rfl ?_
      refine sw_aload_n (dX4_prepare.at 27 rfl) rfl rfl ?_
      refine sw_iload_n (dX4_prepare.at 28 rfl) rfl rfl ?_
      refine sw_callV (B' := B0) (As := [vr (e), vi (((w : Nat) : Int))]) (mc := 0) (ms := 0) (dX4_prepare.at 29 rfl) lk_X4_29 (S_lt 5 (by decide)) (S_5 nw nx g) rfl rfl (Nat.le_of_ble_eq_true rfl) rfl (Nat.le_refl _) (Nat.le_refl _) ?_
      refine c_X4_fillColumn (e := e) (w := w) (j := j + 0) he (EL_wr (a := 6) (f := (clS ((wr c 6 f) 6) w (gN P) 0)) (EL_wr (a := 6) (f := f) hE he (by decide)) he (by decide)) hV hv.1 hv.2.1 ?_
      replace hv := hv.2.2
      refine sw_iinc (lo' := [some (vr (5)), some (vr (e)), some (vi (((w + 1 : Nat) : Int)))]) (dX4_prepare.at 30 rfl) rfl (by decide) rfl ?_
      refine sw_goto (tgt := 15) (dX4_prepare.at 31 rfl) (by decide) ?_
      exact hv
    · replace hv := hv.2.2 q
      refine sw_aload_n (dX4_prepare.at 20 rfl) rfl rfl ?_
      refine sw_getR (dX4_prepare.at 21 rfl) fp_X4_9 (S_lt 5 (by decide)) (S_5 nw nx g) rfl rfl ?_
      refine sw_iconst (dX4_prepare.at 22 rfl) ?_
      refine sw_iconst (dX4_prepare.at 23 rfl) ?_
      refine sw_iastN 0 (dX4_prepare.at 24 rfl) (S_lt 6 (by decide)) (S_6 nw nx g) (by decide) (by decide) ?_
      refine SW.cg (M' := (S nw nx g, 78 + gn, (wr (wr c 6 f) 6 (u1 (clS ((wr c 6 f) 6) w (gN P) 0) 0 1)))) (congrArg (fun m => (S nw nx g, 78 + gn, m)) (wr_up (wr c 6 f) 6 (clS ((wr c 6 f) 6) w (gN P) 0) 0 1)) ?_
      refine sw_goto (tgt := 52) (dX4_prepare.at 25 rfl) (by decide) ?_
      refine sw_iinc (lo' := [some (vr (5)), some (vr (e)), some (vi (((w + 1 : Nat) : Int)))]) (dX4_prepare.at 30 rfl) rfl (by decide) rfl ?_
      refine sw_goto (tgt := 15) (dX4_prepare.at 31 rfl) (by decide) ?_
      exact hv

set_option maxHeartbeats 2000000 in
theorem lp_X4_prepare_15 {G : GG} {j nw nx gn : Nat} {g : Nat → Sh} {c : Nat → Nat → Int} {post : Option AV → AM → Prop} {P : GD} {T : PT} {e : Nat} (he : e = 21 ∨ e = 35) (hE : EL c e P) (hV : GV P) (hT : HT P T) (K : ∀ f, AT P T (gN P) f → post none (S nw nx g, 78 + gn, wr c 6 f)) : ∀ k w : Nat, w + k = gN P → ∀ f, AT P T w f → SW G (j + 4) mX4_prepare 15 [some (vr (5)), some (vr (e)), some (vi (((w : Nat) : Int)))] [] (S nw nx g, 78 + gn, wr c 6 f) B0 post := by
  have h60 := GV_N hV
  intro k
  induction k with
  | zero =>
    intro w hw f hf
    have e2 : w = gN P := by omega
    subst e2
    have K2 := K f hf
    refine g_X4_prepare_15 he hE hV ?_
    refine ⟨?_, ?_, ⟨fun q => ?_, fun q => ⟨?_, ?_, ⟨?_, ⟨fun q => ⟨?_, ?_, ?_⟩, fun q => ?_⟩⟩⟩⟩⟩
    all_goals first | exact K2 | omega | (exfalso; omega)
  | succ k ih =>
    intro w hw f hf
    refine g_X4_prepare_15 he hE hV ?_
    simp only [wr_wr, wr_at]
    by_cases h0 : w = 0
    · subst h0
      have h9 := ih 1 (by omega) _ (AT_1 (f := f) h60 hT (by omega))
      refine ⟨?_, ?_, ⟨fun q => ?_, fun q => ⟨?_, ?_, ⟨?_, ⟨fun q => ⟨?_, ?_, ?_⟩, fun q => ?_⟩⟩⟩⟩⟩
      all_goals first | omega | (exfalso; omega) | exact h9
    · have h8 := hT.2.1 w (clS f w (gN P) 0) (by omega) (by omega) (AT_cl h60 (by omega) hf) (cl_0 h60 (by omega))
      have h9 := ih (w + 1) (by omega) _ h8.2
      refine ⟨?_, ?_, ⟨fun q => ?_, fun q => ⟨?_, ?_, ⟨?_, ⟨fun q => ⟨?_, ?_, ?_⟩, fun q => ?_⟩⟩⟩⟩⟩
      all_goals first | omega | (exfalso; omega) | exact h9 | exact h8.1

set_option maxHeartbeats 2000000 in
theorem c_X4_prepare {G : GG} {j nw nx gn : Nat} {g : Nat → Sh} {c : Nat → Nat → Int} {post : Option AV → AM → Prop} {P : GD} {T : PT} {e : Nat} (he : e = 21 ∨ e = 35) (hE : EL c e P) (hV : GV P) (hT : HT P T) (p1 : PR P T c) (K : ∀ c2 : Nat → Nat → Int, ((∀ a, a ≠ 5 → a ≠ 6 → c2 a = c a) ∧ c2 5 1 = 1 ∧ AT P T (gN P) (c2 6)) → post none (S nw nx g, 78 + gn, c2)) : SM G (j + 5) mX4_prepare [vr (5), vr (e)] (S nw nx g, 78 + gn, c) 0 0 post := by
  refine sm_of wX4_prepare rfl (Nat.le_of_ble_eq_true rfl) ?_
  refine g_X4_prepare_0 he ?_
  rcases p1 with h | h
  · have h9 := lp_X4_prepare_15 (c := up2 c 5 1 1) (G := G) (j := j) (nw := nw) (nx := nx) (gn := gn) (g := g) (post := post) he (EL_up hE he (by decide)) hV hT (fun f hf => K (wr (up2 c 5 1 1) 6 f) ⟨fun a h1 h2 => (by rw [wr_offR h2]; exact up2_off h1), (by rw [wr_off (by decide)]; exact up2_eq _ _ _ _), by rw [wr_at]; exact hf⟩) (gN P) 0 (by omega) (up2 c 5 1 1 6) (fun v w2 k _ h _ => absurd h (Nat.not_lt_zero _))
    rw [wr_self] at h9
    refine ⟨?_, ⟨fun q => ?_, fun q => ?_⟩⟩
    all_goals first | omega | exact h9 | (exfalso; omega)
  · have h9 := K c ⟨fun _ _ _ => rfl, h.1, h.2⟩
    refine ⟨?_, ⟨fun q => ?_, fun q => ?_⟩⟩
    all_goals first | omega | exact h9 | (exfalso; omega)

