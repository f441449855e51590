def PD (P : GD) (T : PT) (c : Nat → Nat → Int) : Prop :=
  (∀ a b, a < gN P → b < gN P → c 64 (60 * a + b) = bz ((gD P b).testBit a)) ∧
  (∀ a b k, a < gN P → b < gN P → k < 14 → c 65 ((60 * a + b) * 14 + k) = rF P a b k) ∧
  (∀ a b k, a < gN P → b < gN P → k < 7 → c 66 ((60 * a + b) * 7 + k) = T a b k)
def RD (P : GD) (T : PT) (c : Nat → Nat → Int) : Prop := c 49 24 = 1 ∧ PD P T c
def RR (P : GD) (T : PT) (c : Nat → Nat → Int) : Prop := c 49 24 = 0 ∨ RD P T c
theorem PD_same {P : GD} {T : PT} {c c2 : Nat → Nat → Int} (h : PD P T c) (h4 : c2 64 = c 64) (h5 : c2 65 = c 65) (h6 : c2 66 = c 66) : PD P T c2 := by
  rw [PD, h4, h5, h6]; exact h
theorem RD_SC {P : GD} {T : PT} {c c2 : Nat → Nat → Int} (h : RD P T c) (hs : SC c c2) : RD P T c2 := ⟨by rw [hs.2 24 (by decide)]; exact h.1, PD_same h.2 (hs.1 64 (by omega)) (hs.1 65 (by omega)) (hs.1 66 (by omega))⟩
theorem RR_SC {P : GD} {T : PT} {c c2 : Nat → Nat → Int} (h : RR P T c) (hs : SC c c2) : RR P T c2 := by
  rcases h with h | h
  · left; rw [hs.2 24 (by decide)]; exact h
  · right; exact RD_SC h hs
/-- all that is known of pairs -/
def GP (P : GD) (T : PT) : Prop := hBr P ∧ hRr P ∧ hPp P T
set_option maxHeartbeats 2000000 in
set_option maxRecDepth 20000 in
theorem g_X9_laysPairs_20 {G : GG} {j nw nx gn : Nat} {g : Nat → Sh} {c : Nat → Nat → Int} {post : Option AV → AM → Prop} {P : GD} {F : Nat → Int} {w : Nat} {v : Nat} (hM : ML c P) (hV : GV P) (hC : GC P) (hB : hBr P) (hQ : BL P F w v)  (hv : (v < 2147483648) ∧ (gN P < 2147483648) ∧ (((gN P ≤ v) → SW G (j + 3) mX9_laysPairs 10 [some (vr (49)), some (vi (((w + 1 : Nat) : Int))), none] [] (S nw nx g, 78 + gn, (wr c 64 F)) B0 post) ∧ ((¬ (gN P ≤ v)) → (v < gN P) ∧ (w < gN P) ∧ (∀ s_1 : Nat → Int, BL P s_1 w (v + 1) → SW G (j + 3) mX9_laysPairs 20 [some (vr (49)), some (vi (((w : Nat) : Int))), some (vi (((v + 1 : Nat) : Int)))] [] (S nw nx g, 78 + gn, (wr c 64 s_1)) B0 post)))) :
    SW G (j + 3) mX9_laysPairs 20 [some (vr (49)), some (vi (((w : Nat) : Int))), some (vi (((v : Nat) : Int)))] [] (S nw nx g, 78 + gn, (wr c 64 F)) B0 post := by
  refine sw_iload_n (dX9_laysPairs_0.at 12 rfl) rfl rfl ?_
  refine sw_aload_n (dX9_laysPairs_0.at 13 rfl) rfl rfl ?_
  refine sw_getIE (w := ((gN P : Nat) : Int)) (dX9_laysPairs_0.at 14 rfl) fp_X9_196 (S_lt 49 (by decide)) (S_49 nw nx g) rfl ((wr_off (c := c) (a := 64) (f := F) (i := 49) (k := 22) (by decide)).trans hM.1.2.1) ?_
  refine sw_icmpN_ge v (gN P) (tgt := 40) (dX9_laysPairs_0.at 15 rfl) (by decide) hv.1 hv.2.1 (fun q => ?_) (fun q => ?_)
  · replace hv := hv.2.2.1 q
    refine sw_iinc (lo' := [some (vr (49)), some (vi (((w + 1 : Nat) : Int))), some (vi (((v : Nat) : Int)))]) (dX9_laysPairs_0.at 22 rfl) rfl (by decide) rfl ?_
    refine sw_goto (tgt := 10) (dX9_laysPairs_0.at 23 rfl) (by decide) ?_
    exact sw_mask (bs := [true, true, false]) hv
  · replace hv := hv.2.2.2 q
    refine sw_aload_n (dX9_laysPairs_0.at 16 rfl) rfl rfl ?_
    refine sw_iload_n (dX9_laysPairs_0.at 17 rfl) rfl rfl ?_
    refine sw_iload_n (dX9_laysPairs_0.at 18 rfl) rfl rfl ?_
    refine sw_callV (B' := B0) (As := [vi (((v : Nat) : Int)), vi (((w : Nat) : Int))]) (mc := 0) (ms := 0) (dX9_laysPairs_0.at 19 rfl) lk_X9_295 (S_lt 49 (by decide)) (S_49 nw nx g) rfl rfl (Nat.le_of_ble_eq_true rfl) rfl (Nat.le_refl _) (Nat.le_refl _) ?_
    refine c_X9_laysBelow (F := F) (v := v) (w := w) (j := j + 0) hM hV hC hB hQ hv.1 hv.2.1 (fun s_1 h_1 => ?_)
    replace hv := hv.2.2 s_1 h_1
    refine sw_iinc (lo' := [some (vr (49)), some (vi (((w : Nat) : Int))), some (vi (((v + 1 : Nat) : Int)))]) (dX9_laysPairs_0.at 20 rfl) rfl (by decide) rfl ?_
    refine sw_goto (tgt := 20) (dX9_laysPairs_0.at 21 rfl) (by decide) ?_
    exact hv

set_option maxHeartbeats 2000000 in
set_option maxRecDepth 20000 in
theorem g_X9_laysPairs_10 {G : GG} {j nw nx gn : Nat} {g : Nat → Sh} {c : Nat → Nat → Int} {post : Option AV → AM → Prop} {P : GD} {F : Nat → Int} {w : Nat} (hM : ML c P) (hV : GV P)  (hv : (w < 2147483648) ∧ (gN P < 2147483648) ∧ (((gN P ≤ w) → SW G (j + 3) mX9_laysPairs 48 [some (vr (49)), some (vi (0)), none] [] (S nw nx g, 78 + gn, (wr c 64 F)) B0 post) ∧ ((¬ (gN P ≤ w)) → SW G (j + 3) mX9_laysPairs 20 [some (vr (49)), some (vi (((w : Nat) : Int))), some (vi (0))] [] (S nw nx g, 78 + gn, (wr c 64 F)) B0 post))) :
    SW G (j + 3) mX9_laysPairs 10 [some (vr (49)), some (vi (((w : Nat) : Int))), none] [] (S nw nx g, 78 + gn, (wr c 64 F)) B0 post := by
  refine sw_iload_n (dX9_laysPairs_0.at 6 rfl) rfl rfl ?_
  refine sw_aload_n (dX9_laysPairs_0.at 7 rfl) rfl rfl ?_
  refine sw_getIE (w := ((gN P : Nat) : Int)) (dX9_laysPairs_0.at 8 rfl) fp_X9_196 (S_lt 49 (by decide)) (S_49 nw nx g) rfl ((wr_off (c := c) (a := 64) (f := F) (i := 49) (k := 22) (by decide)).trans hM.1.2.1) ?_
  refine sw_icmpN_ge w (gN P) (tgt := 46) (dX9_laysPairs_0.at 9 rfl) (by decide) hv.1 hv.2.1 (fun q => ?_) (fun q => ?_)
  · replace hv := hv.2.2.1 q
    refine sw_iconst (dX9_laysPairs_0.at 24 rfl) ?_
    refine sw_istore_n (lo' := [some (vr (49)), some (vi (0)), none]) (dX9_laysPairs_0.at 25 rfl) rfl (by decide) rfl ?_
    exact hv
  · replace hv := hv.2.2.2 q
    refine sw_iconst (dX9_laysPairs_0.at 10 rfl) ?_
    refine sw_istore_n (lo' := [some (vr (49)), some (vi (((w : Nat) : Int))), some (vi (0))]) (dX9_laysPairs_0.at 11 rfl) rfl (by decide) rfl ?_
    exact hv

set_option maxHeartbeats 2000000 in
theorem lq_20 {G : GG} {j nw nx gn : Nat} {g : Nat → Sh} {c : Nat → Nat → Int} {post : Option AV → AM → Prop} {P : GD} {w : Nat} (hM : ML c P) (hV : GV P) (hC : GC P) (hB : hBr P) (hw : w < gN P) (K : ∀ F : Nat → Int, BL P F (w + 1) 0 → SW G (j + 3) mX9_laysPairs 10 [some (vr (49)), some (vi (((w + 1 : Nat) : Int))), none] [] (S nw nx g, 78 + gn, (wr c 64 F)) B0 post) : ∀ (k v : Nat) (F : Nat → Int), v + k = gN P → BL P F w v → SW G (j + 3) mX9_laysPairs 20 [some (vr (49)), some (vi (((w : Nat) : Int))), some (vi (((v : Nat) : Int)))] [] (S nw nx g, 78 + gn, (wr c 64 F)) B0 post := by
  have h60 := GV_N hV
  intro k
  induction k with
  | zero =>
    intro v F hk hQ
    have K2 := K F (by intro a b ha hb hh; exact hQ a b ha hb (by omega))
    refine g_X9_laysPairs_20 hM hV hC hB hQ ?_
    refine ⟨?_, ?_, ⟨fun q => ?_, fun q => ⟨?_, ?_, fun s_1 h_1 => ?_⟩⟩⟩
    all_goals first | omega | exact K2 | (exfalso; omega)
  | succ k ih =>
    intro v F hk hQ
    refine g_X9_laysPairs_20 hM hV hC hB hQ ?_
    refine ⟨?_, ?_, ⟨fun q => ?_, fun q => ⟨?_, ?_, fun s_1 h_1 => ?_⟩⟩⟩
    all_goals first | omega | (exfalso; omega) | exact ih _ _ (by omega) h_1
set_option maxHeartbeats 2000000 in
theorem lq_10 {G : GG} {j nw nx gn : Nat} {g : Nat → Sh} {c : Nat → Nat → Int} {post : Option AV → AM → Prop} {P : GD} (hM : ML c P) (hV : GV P) (hC : GC P) (hB : hBr P) (K : ∀ F : Nat → Int, BL P F (gN P) 0 → SW G (j + 3) mX9_laysPairs 48 [some (vr (49)), some (vi (0)), none] [] (S nw nx g, 78 + gn, (wr c 64 F)) B0 post) : ∀ (k w : Nat) (F : Nat → Int), w + k = gN P → BL P F w 0 → SW G (j + 3) mX9_laysPairs 10 [some (vr (49)), some (vi (((w : Nat) : Int))), none] [] (S nw nx g, 78 + gn, (wr c 64 F)) B0 post := by
  have h60 := GV_N hV
  intro k
  induction k with
  | zero =>
    intro w F hk hQ
    have e : w = gN P := by omega
    subst e
    have K2 := K F hQ
    refine g_X9_laysPairs_10 hM hV ?_
    refine ⟨?_, ?_, ⟨fun q => ?_, fun q => ?_⟩⟩
    all_goals first | omega | exact K2 | (exfalso; omega)
  | succ k ih =>
    intro w F hk hQ
    refine g_X9_laysPairs_10 hM hV ?_
    refine ⟨?_, ?_, ⟨fun q => ?_, fun q => ?_⟩⟩
    all_goals first | omega | (exfalso; omega) | exact lq_20 hM hV hC hB (by omega) (fun F h => ih _ F (by omega) h) (gN P) 0 F (by omega) hQ

set_option maxHeartbeats 2000000 in
set_option maxRecDepth 20000 in
theorem g_X9_laysPairs_58 {G : GG} {j nw nx gn : Nat} {g : Nat → Sh} {c : Nat → Nat → Int} {post : Option AV → AM → Prop} {P : GD} {F : Nat → Int} {w : Nat} {v : Nat} (hM : ML c P) (hV : GV P) (hC : GC P) (hB : hBr P) (hA : ∀ a b, a < gN P → b < gN P → c 64 (60 * a + b) = bz ((gD P b).testBit a)) (hR : hRr P) (hQ : RLp P F w v)  (hv : (v < 2147483648) ∧ (gN P < 2147483648) ∧ (((gN P ≤ v) → SW G (j + 3) mX9_laysPairs 48 [some (vr (49)), some (vi (((w + 1 : Nat) : Int))), none] [] (S nw nx g, 78 + gn, (wr c 65 F)) B0 post) ∧ ((¬ (gN P ≤ v)) → (v < gN P) ∧ (w < gN P) ∧ (∀ s_1 : Nat → Int, RLp P s_1 w (v + 1) → SW G (j + 3) mX9_laysPairs 58 [some (vr (49)), some (vi (((w : Nat) : Int))), some (vi (((v + 1 : Nat) : Int)))] [] (S nw nx g, 78 + gn, (wr c 65 s_1)) B0 post)))) :
    SW G (j + 3) mX9_laysPairs 58 [some (vr (49)), some (vi (((w : Nat) : Int))), some (vi (((v : Nat) : Int)))] [] (S nw nx g, 78 + gn, (wr c 65 F)) B0 post := by
  refine sw_iload_n (dX9_laysPairs_0.at 32 rfl) rfl rfl ?_
  refine sw_aload_n (dX9_laysPairs_0.at 33 rfl) rfl rfl ?_
  refine sw_getIE (w := ((gN P : Nat) : Int)) (dX9_laysPairs_0.at 34 rfl) fp_X9_196 (S_lt 49 (by decide)) (S_49 nw nx g) rfl ((wr_off (c := c) (a := 65) (f := F) (i := 49) (k := 22) (by decide)).trans hM.1.2.1) ?_
  refine sw_icmpN_ge v (gN P) (tgt := 78) (dX9_laysPairs_0.at 35 rfl) (by decide) hv.1 hv.2.1 (fun q => ?_) (fun q => ?_)
  · replace hv := hv.2.2.1 q
    refine sw_iinc (lo' := [some (vr (49)), some (vi (((w + 1 : Nat) : Int))), some (vi (((v : Nat) : Int)))]) (dX9_laysPairs_0.at 42 rfl) rfl (by decide) rfl ?_
    refine sw_goto (tgt := 48) (dX9_laysPairs_0.at 43 rfl) (by decide) ?_
    exact sw_mask (bs := [true, true, false]) hv
  · replace hv := hv.2.2.2 q
    refine sw_aload_n (dX9_laysPairs_0.at 36 rfl) rfl rfl ?_
    refine sw_iload_n (dX9_laysPairs_0.at 37 rfl) rfl rfl ?_
    refine sw_iload_n (dX9_laysPairs_0.at 38 rfl) rfl rfl ?_
    refine sw_callV (B' := B0) (As := [vi (((v : Nat) : Int)), vi (((w : Nat) : Int))]) (mc := 0) (ms := 0) (dX9_laysPairs_0.at 39 rfl) lk_X9_299 (S_lt 49 (by decide)) (S_49 nw nx g) rfl rfl (Nat.le_of_ble_eq_true rfl) rfl (Nat.le_refl _) (Nat.le_refl _) ?_
    refine c_X9_laysR (F := F) (v := v) (w := w) (j := j + 0) hM hV hC hB hA hR hQ hv.1 hv.2.1 (fun s_1 h_1 => ?_)
    replace hv := hv.2.2 s_1 h_1
    refine sw_iinc (lo' := [some (vr (49)), some (vi (((w : Nat) : Int))), some (vi (((v + 1 : Nat) : Int)))]) (dX9_laysPairs_0.at 40 rfl) rfl (by decide) rfl ?_
    refine sw_goto (tgt := 58) (dX9_laysPairs_0.at 41 rfl) (by decide) ?_
    exact hv

set_option maxHeartbeats 2000000 in
set_option maxRecDepth 20000 in
theorem g_X9_laysPairs_48 {G : GG} {j nw nx gn : Nat} {g : Nat → Sh} {c : Nat → Nat → Int} {post : Option AV → AM → Prop} {P : GD} {F : Nat → Int} {w : Nat} (hM : ML c P) (hV : GV P)  (hv : (w < 2147483648) ∧ (gN P < 2147483648) ∧ (((gN P ≤ w) → SW G (j + 3) mX9_laysPairs 86 [some (vr (49)), some (vi (0)), none] [] (S nw nx g, 78 + gn, (wr c 65 F)) B0 post) ∧ ((¬ (gN P ≤ w)) → SW G (j + 3) mX9_laysPairs 58 [some (vr (49)), some (vi (((w : Nat) : Int))), some (vi (0))] [] (S nw nx g, 78 + gn, (wr c 65 F)) B0 post))) :
    SW G (j + 3) mX9_laysPairs 48 [some (vr (49)), some (vi (((w : Nat) : Int))), none] [] (S nw nx g, 78 + gn, (wr c 65 F)) B0 post := by
  refine sw_iload_n (dX9_laysPairs_0.at 26 rfl) rfl rfl ?_
  refine sw_aload_n (dX9_laysPairs_0.at 27 rfl) rfl rfl ?_
  refine sw_getIE (w := ((gN P : Nat) : Int)) (dX9_laysPairs_0.at 28 rfl) fp_X9_196 (S_lt 49 (by decide)) (S_49 nw nx g) rfl ((wr_off (c := c) (a := 65) (f := F) (i := 49) (k := 22) (by decide)).trans hM.1.2.1) ?_
  refine sw_icmpN_ge w (gN P) (tgt := 84) (dX9_laysPairs_0.at 29 rfl) (by decide) hv.1 hv.2.1 (fun q => ?_) (fun q => ?_)
  · replace hv := hv.2.2.1 q
    refine sw_iconst (dX9_laysPairs_0.at 44 rfl) ?_
    refine sw_istore_n (lo' := [some (vr (49)), some (vi (0)), none]) (dX9_laysPairs_0.at 45 rfl) rfl (by decide) rfl ?_
    exact hv
  · replace hv := hv.2.2.2 q
    refine sw_iconst (dX9_laysPairs_0.at 30 rfl) ?_
    refine sw_istore_n (lo' := [some (vr (49)), some (vi (((w : Nat) : Int))), some (vi (0))]) (dX9_laysPairs_0.at 31 rfl) rfl (by decide) rfl ?_
    exact hv

set_option maxHeartbeats 2000000 in
theorem lq_58 {G : GG} {j nw nx gn : Nat} {g : Nat → Sh} {c : Nat → Nat → Int} {post : Option AV → AM → Prop} {P : GD} {w : Nat} (hM : ML c P) (hV : GV P) (hC : GC P) (hB : hBr P) (hA : ∀ a b, a < gN P → b < gN P → c 64 (60 * a + b) = bz ((gD P b).testBit a)) (hR : hRr P) (hw : w < gN P) (K : ∀ F : Nat → Int, RLp P F (w + 1) 0 → SW G (j + 3) mX9_laysPairs 48 [some (vr (49)), some (vi (((w + 1 : Nat) : Int))), none] [] (S nw nx g, 78 + gn, (wr c 65 F)) B0 post) : ∀ (k v : Nat) (F : Nat → Int), v + k = gN P → RLp P F w v → SW G (j + 3) mX9_laysPairs 58 [some (vr (49)), some (vi (((w : Nat) : Int))), some (vi (((v : Nat) : Int)))] [] (S nw nx g, 78 + gn, (wr c 65 F)) B0 post := by
  have h60 := GV_N hV
  intro k
  induction k with
  | zero =>
    intro v F hk hQ
    have K2 := K F (by intro a b i ha hb hi hh; exact hQ a b i ha hb hi (by omega))
    refine g_X9_laysPairs_58 hM hV hC hB hA hR hQ ?_
    refine ⟨?_, ?_, ⟨fun q => ?_, fun q => ⟨?_, ?_, fun s_1 h_1 => ?_⟩⟩⟩
    all_goals first | omega | exact K2 | (exfalso; omega)
  | succ k ih =>
    intro v F hk hQ
    refine g_X9_laysPairs_58 hM hV hC hB hA hR hQ ?_
    refine ⟨?_, ?_, ⟨fun q => ?_, fun q => ⟨?_, ?_, fun s_1 h_1 => ?_⟩⟩⟩
    all_goals first | omega | (exfalso; omega) | exact ih _ _ (by omega) h_1
set_option maxHeartbeats 2000000 in
theorem lq_48 {G : GG} {j nw nx gn : Nat} {g : Nat → Sh} {c : Nat → Nat → Int} {post : Option AV → AM → Prop} {P : GD} (hM : ML c P) (hV : GV P) (hC : GC P) (hB : hBr P) (hA : ∀ a b, a < gN P → b < gN P → c 64 (60 * a + b) = bz ((gD P b).testBit a)) (hR : hRr P) (K : ∀ F : Nat → Int, RLp P F (gN P) 0 → SW G (j + 3) mX9_laysPairs 86 [some (vr (49)), some (vi (0)), none] [] (S nw nx g, 78 + gn, (wr c 65 F)) B0 post) : ∀ (k w : Nat) (F : Nat → Int), w + k = gN P → RLp P F w 0 → SW G (j + 3) mX9_laysPairs 48 [some (vr (49)), some (vi (((w : Nat) : Int))), none] [] (S nw nx g, 78 + gn, (wr c 65 F)) B0 post := by
  have h60 := GV_N hV
  intro k
  induction k with
  | zero =>
    intro w F hk hQ
    have e : w = gN P := by omega
    subst e
    have K2 := K F hQ
    refine g_X9_laysPairs_48 hM hV ?_
    refine ⟨?_, ?_, ⟨fun q => ?_, fun q => ?_⟩⟩
    all_goals first | omega | exact K2 | (exfalso; omega)
  | succ k ih =>
    intro w F hk hQ
    refine g_X9_laysPairs_48 hM hV ?_
    refine ⟨?_, ?_, ⟨fun q => ?_, fun q => ?_⟩⟩
    all_goals first | omega | (exfalso; omega) | exact lq_58 hM hV hC hB hA hR (by omega) (fun F h => ih _ F (by omega) h) (gN P) 0 F (by omega) hQ

set_option maxHeartbeats 2000000 in
set_option maxRecDepth 20000 in
theorem g_X9_laysPairs_101 {G : GG} {j nw nx gn : Nat} {g : Nat → Sh} {c : Nat → Nat → Int} {post : Option AV → AM → Prop} {P : GD} {T : PT} {F : Nat → Int} {w : Nat} {v : Nat} (hM : ML c P) (hV : GV P) (hA : ∀ a b, a < gN P → b < gN P → c 64 (60 * a + b) = bz ((gD P b).testBit a)) (hRA : ∀ a b k, a < gN P → b < gN P → k < 14 → c 65 ((60 * a + b) * 14 + k) = rF P a b k) (hP : hPp P T) (hQ : PL P T F w (v + 1))  (hv : (v < 2147483648) ∧ (((((v : Nat) : Int) < 0) → SW G (j + 3) mX9_laysPairs 86 [some (vr (49)), some (vi (((w + 1 : Nat) : Int))), none] [] (S nw nx g, 78 + gn, (wr c 66 F)) B0 post) ∧ ((¬ (((v : Nat) : Int) < 0)) → (v < gN P) ∧ (w < gN P) ∧ (∀ s_1 : Nat → Int, PL P T s_1 w v → SW G (j + 3) mX9_laysPairs 101 [some (vr (49)), some (vi (((w : Nat) : Int))), some (vi (((v : Nat) : Int) + (-1)))] [] (S nw nx g, 78 + gn, (wr c 66 s_1)) B0 post)))) :
    SW G (j + 3) mX9_laysPairs 101 [some (vr (49)), some (vi (((w : Nat) : Int))), some (vi (((v : Nat) : Int)))] [] (S nw nx g, 78 + gn, (wr c 66 F)) B0 post := by
  refine sw_iload_n (dX9_laysPairs_1.at 5 rfl) rfl rfl ?_
  refine sw_if_lt (tgt := 117) (dX9_laysPairs_1.at 6 rfl) (by decide) (nrng hv.1) (fun q => ?_) (fun q => ?_)
  · replace hv := hv.2.1 q
    refine sw_iinc (lo' := [some (vr (49)), some (vi (((w + 1 : Nat) : Int))), some (vi (((v : Nat) : Int)))]) (dX9_laysPairs_1.at 13 rfl) rfl (by decide) rfl ?_
    refine sw_goto (tgt := 86) (dX9_laysPairs_1.at 14 rfl) (by decide) ?_
    exact sw_mask (bs := [true, true, false]) hv
  · replace hv := hv.2.2 q
    refine sw_aload_n (dX9_laysPairs_1.at 7 rfl) rfl rfl ?_
    refine sw_iload_n (dX9_laysPairs_1.at 8 rfl) rfl rfl ?_
    refine sw_iload_n (dX9_laysPairs_1.at 9 rfl) rfl rfl ?_
    refine sw_callV (B' := B0) (As := [vi (((v : Nat) : Int)), vi (((w : Nat) : Int))]) (mc := 0) (ms := 0) (dX9_laysPairs_1.at 10 rfl) lk_X9_302 (S_lt 49 (by decide)) (S_49 nw nx g) rfl rfl (Nat.le_of_ble_eq_true rfl) rfl (Nat.le_refl _) (Nat.le_refl _) ?_
    refine c_X9_laysP (F := F) (v := v) (w := w) (j := j + 0) hM hV hA hRA hP hQ hv.1 hv.2.1 (fun s_1 h_1 => ?_)
    replace hv := hv.2.2 s_1 h_1
    refine sw_iinc (lo' := [some (vr (49)), some (vi (((w : Nat) : Int))), some (vi (((v : Nat) : Int) + (-1)))]) (dX9_laysPairs_1.at 11 rfl) rfl (by decide) rfl ?_
    refine sw_goto (tgt := 101) (dX9_laysPairs_1.at 12 rfl) (by decide) ?_
    exact hv

set_option maxHeartbeats 2000000 in
set_option maxRecDepth 20000 in
theorem g_X9_laysPairs_101e {G : GG} {j nw nx gn : Nat} {g : Nat → Sh} {c : Nat → Nat → Int} {post : Option AV → AM → Prop} {F : Nat → Int} {w : Nat}  (hv : SW G (j + 3) mX9_laysPairs 86 [some (vr (49)), some (vi (((w + 1 : Nat) : Int))), none] [] (S nw nx g, 78 + gn, (wr c 66 F)) B0 post) :
    SW G (j + 3) mX9_laysPairs 101 [some (vr (49)), some (vi (((w : Nat) : Int))), some (vi ((-1)))] [] (S nw nx g, 78 + gn, (wr c 66 F)) B0 post := by
  refine sw_iload_n (dX9_laysPairs_1.at 5 rfl) rfl rfl ?_
  refine sw_if_lt (tgt := 117) (dX9_laysPairs_1.at 6 rfl) (by decide) (by decide) (fun q => ?_) (fun q => ?_)
  · clear q
    refine sw_iinc (lo' := [some (vr (49)), some (vi (((w + 1 : Nat) : Int))), some (vi ((-1)))]) (dX9_laysPairs_1.at 13 rfl) rfl (by decide) rfl ?_
    refine sw_goto (tgt := 86) (dX9_laysPairs_1.at 14 rfl) (by decide) ?_
    exact sw_mask (bs := [true, true, false]) hv
  · exact absurd q (by decide)

set_option maxHeartbeats 2000000 in
set_option maxRecDepth 20000 in
theorem g_X9_laysPairs_86 {G : GG} {j nw nx gn : Nat} {g : Nat → Sh} {c : Nat → Nat → Int} {post : Option AV → AM → Prop} {P : GD} {F : Nat → Int} {w : Nat} (hM : ML c P) (hV : GV P)  (hv : (w < 2147483648) ∧ (gN P < 2147483648) ∧ (((gN P ≤ w) → post none (S nw nx g, 78 + gn, (up2 (wr c 66 F) 49 24 1))) ∧ ((¬ (gN P ≤ w)) → SW G (j + 3) mX9_laysPairs 101 [some (vr (49)), some (vi (((w : Nat) : Int))), some (vi (((gN P : Nat) : Int) - 1))] [] (S nw nx g, 78 + gn, (wr c 66 F)) B0 post))) :
    SW G (j + 3) mX9_laysPairs 86 [some (vr (49)), some (vi (((w : Nat) : Int))), none] [] (S nw nx g, 78 + gn, (wr c 66 F)) B0 post := by
  refine sw_iload_n (dX9_laysPairs_0.at 46 rfl) rfl rfl ?_
  refine sw_aload_n (dX9_laysPairs_0.at 47 rfl) rfl rfl ?_
  refine sw_getIE (w := ((gN P : Nat) : Int)) (dX9_laysPairs_0.at 48 rfl) fp_X9_196 (S_lt 49 (by decide)) (S_49 nw nx g) rfl ((wr_off (c := c) (a := 66) (f := F) (i := 49) (k := 22) (by decide)).trans hM.1.2.1) ?_
  refine sw_icmpN_ge w (gN P) (tgt := 123) (dX9_laysPairs_0.at 49 rfl) (by decide) hv.1 hv.2.1 (fun q => ?_) (fun q => ?_)
  · replace hv := hv.2.2.1 q
    refine sw_aload_n (dX9_laysPairs_1.at 15 rfl) rfl rfl ?_
    refine sw_iconst (dX9_laysPairs_1.at 16 rfl) ?_
    refine sw_putZ (dX9_laysPairs_1.at 17 rfl) fp_X9_212 (S_lt 49 (by decide)) (S_49 nw nx g) rfl (by decide) ?_
    exact sw_vret (dX9_laysPairs_1.at 18 rfl) rfl (Nat.le_refl _) (Nat.le_refl _) hv
  · replace hv := hv.2.2.2 q
    refine sw_aload_n (dX9_laysPairs_1.at 0 rfl) rfl rfl ?_
    refine sw_getIE (w := ((gN P : Nat) : Int)) (dX9_laysPairs_1.at 1 rfl) fp_X9_196 (S_lt 49 (by decide)) (S_49 nw nx g) rfl ((wr_off (c := c) (a := 66) (f := F) (i := 49) (k := 22) (by decide)).trans hM.1.2.1) ?_
    refine sw_iconst (dX9_laysPairs_1.at 2 rfl) ?_
    refine sw_isub (dX9_laysPairs_1.at 3 rfl) ?_
    refine sw_istore_n (lo' := [some (vr (49)), some (vi (((w : Nat) : Int))), some (vi (((gN P : Nat) : Int) - 1))]) (dX9_laysPairs_1.at 4 rfl) rfl (by decide) rfl ?_
    exact hv

set_option maxHeartbeats 2000000 in
theorem lq_101 {G : GG} {j nw nx gn : Nat} {g : Nat → Sh} {c : Nat → Nat → Int} {post : Option AV → AM → Prop} {P : GD} {T : PT} {w : Nat} (hM : ML c P) (hV : GV P) (hA : ∀ a b, a < gN P → b < gN P → c 64 (60 * a + b) = bz ((gD P b).testBit a)) (hRA : ∀ a b k, a < gN P → b < gN P → k < 14 → c 65 ((60 * a + b) * 14 + k) = rF P a b k) (hP : hPp P T) (hw : w < gN P) (K : ∀ F : Nat → Int, PL P T F (w + 1) (gN P) → SW G (j + 3) mX9_laysPairs 86 [some (vr (49)), some (vi (((w + 1 : Nat) : Int))), none] [] (S nw nx g, 78 + gn, (wr c 66 F)) B0 post) : ∀ (v : Nat) (F : Nat → Int), v ≤ gN P → PL P T F w v → SW G (j + 3) mX9_laysPairs 101 [some (vr (49)), some (vi (((w : Nat) : Int))), some (vi ((v : Int) - 1))] [] (S nw nx g, 78 + gn, (wr c 66 F)) B0 post := by
  have h60 := GV_N hV
  intro v
  induction v with
  | zero =>
    intro F _ hQ
    have e : (((0 : Nat) : Int) - 1) = (-1) := by omega
    rw [e]
    refine g_X9_laysPairs_101e ?_
    exact K F (fun a b k ha hb hk hh => hQ a b k ha hb hk (by omega))
  | succ v ih =>
    intro F hv hQ
    have e : (((v + 1 : Nat) : Int) - 1) = ((v : Nat) : Int) := by omega
    have e2 : ((v : Nat) : Int) + (-1) = (v : Int) - 1 := by omega
    rw [e]
    refine g_X9_laysPairs_101 hM hV hA hRA hP hQ ?_
    rw [e2]
    refine ⟨?_, ⟨fun q => ?_, fun q => ⟨?_, ?_, fun s_1 h_1 => ?_⟩⟩⟩
    all_goals first | omega | (exfalso; omega) | exact ih _ (by omega) h_1
set_option maxHeartbeats 2000000 in
theorem lq_86 {G : GG} {j nw nx gn : Nat} {g : Nat → Sh} {c : Nat → Nat → Int} {post : Option AV → AM → Prop} {P : GD} {T : PT} (hM : ML c P) (hV : GV P) (hA : ∀ a b, a < gN P → b < gN P → c 64 (60 * a + b) = bz ((gD P b).testBit a)) (hRA : ∀ a b k, a < gN P → b < gN P → k < 14 → c 65 ((60 * a + b) * 14 + k) = rF P a b k) (hP : hPp P T) (K : ∀ F : Nat → Int, PL P T F (gN P) (gN P) → post none (S nw nx g, 78 + gn, up2 (wr c 66 F) 49 24 1)) : ∀ (k w : Nat) (F : Nat → Int), w + k = gN P → PL P T F w (gN P) → SW G (j + 3) mX9_laysPairs 86 [some (vr (49)), some (vi (((w : Nat) : Int))), none] [] (S nw nx g, 78 + gn, (wr c 66 F)) B0 post := by
  have h60 := GV_N hV
  intro k
  induction k with
  | zero =>
    intro w F hk hQ
    have e : w = gN P := by omega
    subst e
    have K2 := K F hQ
    refine g_X9_laysPairs_86 hM hV ?_
    refine ⟨?_, ?_, ⟨fun q => ?_, fun q => ?_⟩⟩
    all_goals first | omega | exact K2 | (exfalso; omega)
  | succ k ih =>
    intro w F hk hQ
    refine g_X9_laysPairs_86 hM hV ?_
    refine ⟨?_, ?_, ⟨fun q => ?_, fun q => ?_⟩⟩
    all_goals first | omega | (exfalso; omega) | exact lq_101 hM hV hA hRA hP (by omega) (fun F h => ih _ F (by omega) h) (gN P) F (Nat.le_refl _) hQ

set_option maxHeartbeats 2000000 in
set_option maxRecDepth 20000 in
theorem g_X9_laysPairs_0 {G : GG} {j nw nx gn : Nat} {g : Nat → Sh} {c : Nat → Nat → Int} {post : Option AV → AM → Prop}  (hv : (-2147483648 ≤ c 49 24 ∧ c 49 24 < 2147483648) ∧ (((c 49 24 = 0) → SW G (j + 3) mX9_laysPairs 10 [some (vr (49)), some (vi (0)), none] [] (S nw nx g, 78 + gn, c) B0 post) ∧ ((¬ (c 49 24 = 0)) → post none (S nw nx g, 78 + gn, c)))) :
    SW G (j + 3) mX9_laysPairs 0 [some (vr (49)), none, none] [] (S nw nx g, 78 + gn, c) B0 post := by
  refine sw_aload_n (dX9_laysPairs_0.at 0 rfl) rfl rfl ?_
  refine sw_getI (dX9_laysPairs_0.at 1 rfl) fp_X9_212 (S_lt 49 (by decide)) (S_49 nw nx g) rfl ?_
  refine sw_if_eq (tgt := 8) (dX9_laysPairs_0.at 2 rfl) (by decide) hv.1 (fun q => ?_) (fun q => ?_)
  · replace hv := hv.2.1 q
    refine sw_iconst (dX9_laysPairs_0.at 4 rfl) ?_
    refine sw_istore_n (lo' := [some (vr (49)), some (vi (0)), none]) (dX9_laysPairs_0.at 5 rfl) rfl (by decide) rfl ?_
    exact hv
  · replace hv := hv.2.2 q
    exact sw_vret (dX9_laysPairs_0.at 3 rfl) rfl (Nat.le_refl _) (Nat.le_refl _) hv

set_option maxHeartbeats 2000000 in
theorem c_X9_laysPairs {G : GG} {j nw nx gn : Nat} {g : Nat → Sh} {c : Nat → Nat → Int} {post : Option AV → AM → Prop} {P : GD} {T : PT} (hM : ML c P) (hV : GV P) (hC : GC P) (hG : GP P T) (hR : RR P T c) (K : ∀ c2 : Nat → Nat → Int, (SD c c2 ∧ RD P T c2) → post none (S nw nx g, 78 + gn, c2)) : SM G (j + 4) mX9_laysPairs [vr (49)] (S nw nx g, 78 + gn, c) 0 0 post := by
  refine sm_of wX9_laysPairs rfl (Nat.le_of_ble_eq_true rfl) ?_
  refine g_X9_laysPairs_0 ?_
  obtain ⟨hB, hRr, hP⟩ := hG
  rcases hR with h | h
  · have h9 := lq_10 (G := G) (j := j) (nw := nw) (nx := nx) (gn := gn) (g := g) (post := post) hM hV hC hB (fun F4 q4 => by
      have hM4 := ML_SD hM (SD_wr SD_rf (a := 64) (f := F4) (by decide))
      have hA4 : ∀ a b, a < gN P → b < gN P → wr c 64 F4 64 (60 * a + b) = bz ((gD P b).testBit a) := fun a b ha hb => by rw [wr_at]; exact q4 a b ha hb (Or.inl hb)
      have h8 := lq_48 (c := wr c 64 F4) (G := G) (j := j) (nw := nw) (nx := nx) (gn := gn) (g := g) (post := post) hM4 hV hC hB hA4 hRr (fun F5 q5 => by
        have hM5 := ML_SD hM4 (SD_wr SD_rf (a := 65) (f := F5) (by decide))
        have hA5 : ∀ a b, a < gN P → b < gN P → wr (wr c 64 F4) 65 F5 64 (60 * a + b) = bz ((gD P b).testBit a) := fun a b ha hb => by rw [wr_off (by decide)]; exact hA4 a b ha hb
        have hR5 : ∀ a b k, a < gN P → b < gN P → k < 14 → wr (wr c 64 F4) 65 F5 65 ((60 * a + b) * 14 + k) = rF P a b k := fun a b k ha hb hk => by rw [wr_at]; exact q5 a b k ha hb hk (Or.inl hb)
        have h7 := lq_86 (c := wr (wr c 64 F4) 65 F5) (G := G) (j := j) (nw := nw) (nx := nx) (gn := gn) (g := g) (post := post) hM5 hV hA5 hR5 hP (fun F6 q6 => K _ ⟨SD_up49 (SD_wr (SD_wr (SD_wr SD_rf (by decide)) (by decide)) (by decide)) (by decide), up2_eq _ _ _ _, fun a b ha hb => by rw [up2_ne (Or.inl (by decide)), wr_off (by decide)]; exact hA5 a b ha hb, fun a b k ha hb hk => by rw [up2_ne (Or.inl (by decide)), wr_off (by decide)]; exact hR5 a b k ha hb hk, fun a b k ha hb hk => by rw [up2_ne (Or.inl (by decide)), wr_at]; exact q6 a b k ha hb hk (Or.inl hb)⟩) (gN P) 0 (wr (wr c 64 F4) 65 F5 66) (by omega) (fun a b k ha hb hk hh => by omega)
        rw [wr_self] at h7
        exact h7) (gN P) 0 (wr c 64 F4 65) (by omega) (fun a b k ha hb hk hh => by omega)
      rw [wr_self] at h8
      exact h8) (gN P) 0 (c 64) (by omega) (fun a b ha hb hh => by omega)
    rw [wr_self] at h9
    refine ⟨?_, ⟨fun q => ?_, fun q => ?_⟩⟩
    all_goals first | omega | exact h9 | (exfalso; omega)
  · have h9 := K c ⟨SD_rf, h⟩
    have h1 := h.1
    refine ⟨?_, ⟨fun q => ?_, fun q => ?_⟩⟩
    all_goals first | omega | exact h9 | (exfalso; omega)

