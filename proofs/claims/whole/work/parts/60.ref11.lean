/-! pairs: SD: what is scratched on, and the tables of pairs -/
def SD (c c2 : Nat → Nat → Int) : Prop := (∀ a, (a < 49 ∨ (49 < a ∧ a < 61) ∨ 72 < a) → c2 a = c a) ∧ ∀ k, k ≠ 24 → k ≠ 27 → c2 49 k = c 49 k
theorem SD_rf {c : Nat → Nat → Int} : SD c c := ⟨fun _ _ => rfl, fun _ _ _ => rfl⟩
theorem SD_SC {c c2 : Nat → Nat → Int} (h : SC c c2) : SD c c2 := ⟨fun a ha => h.1 a (by omega), fun k _ hk => h.2 k hk⟩
theorem SD_tr {c c2 c3 : Nat → Nat → Int} (h : SD c c2) (h2 : SD c2 c3) : SD c c3 := ⟨fun a ha => (h2.1 a ha).trans (h.1 a ha), fun k hk hk2 => (h2.2 k hk hk2).trans (h.2 k hk hk2)⟩
theorem SD_wr {c c2 : Nat → Nat → Int} (h : SD c c2) {a : Nat} {f : Nat → Int} (ha : 60 < a ∧ a < 73) : SD c (wr c2 a f) := ⟨fun b hb => (wr_offR (by omega)).trans (h.1 b hb), fun k hk hk2 => (wr_off (by omega)).trans (h.2 k hk hk2)⟩
theorem SD_up {c c2 : Nat → Nat → Int} (h : SD c c2) {a k : Nat} {z : Int} (ha : 60 < a ∧ a < 73) : SD c (up2 c2 a k z) := ⟨fun b hb => (up2_off (by omega)).trans (h.1 b hb), fun q hq hq2 => (up2_ne (Or.inl (by omega))).trans (h.2 q hq hq2)⟩
theorem SD_up49 {c c2 : Nat → Nat → Int} (h : SD c c2) {k : Nat} {z : Int} (hk : k = 24 ∨ k = 27) : SD c (up2 c2 49 k z) := ⟨fun b hb => (up2_off (by omega)).trans (h.1 b hb), fun q hq hq2 => (up2_ne (Or.inr (by omega))).trans (h.2 q hq hq2)⟩
theorem ML_SD {c : Nat → Nat → Int} {P : GD} (h : ML c P) {c2 : Nat → Nat → Int} (hs : SD c c2) : ML c2 P := by
  obtain ⟨⟨h1, h2, h3, h4, h5, h6, h7⟩, h8, h9, h10, h11⟩ := h
  have e := hs.2
  refine ⟨⟨(e 4 (by decide) (by decide)).trans h1, (e 22 (by decide) (by decide)).trans h2, (e 21 (by decide) (by decide)).trans h3, (e 23 (by decide) (by decide)).trans h4, by rw [e 5 (by decide) (by decide)]; exact h5, by rw [e 5 (by decide) (by decide)]; exact h6, by rw [e 5 (by decide) (by decide)]; exact h7⟩, ?_, ?_, ?_, ?_⟩
  · rw [hs.1 51 (by omega)]; exact h8
  · rw [hs.1 56 (by omega), hs.1 59 (by omega), hs.1 57 (by omega), hs.1 58 (by omega)]; exact h9
  · rw [hs.1 54 (by omega), hs.1 55 (by omega)]; exact h10
  · rw [hs.1 60 (by omega)]; exact h11
def hBr (P : GD) : Prop :=
  (∀ x y, x < gN P → y < gN P → gL P x < gL P y → x < y) ∧
  (∀ w, 0 < w → w < gN P → gE P w ≠ 0) ∧
  (∀ v, v < gN P → (gD P 0).testBit v = decide (v = 0)) ∧
  (∀ v w, v < gN P → 0 < w → w < gN P → (gD P w).testBit v = (gD P (gS P w (lsb (gE P w)))).testBit (if (gE P v).testBit (lsb (gE P w)) then gS P v (lsb (gE P w)) else v))
theorem sb_ok {P : GD} (hV : GV P) (hC : GC P) (hB : hBr P) {w : Nat} (hw : w < gN P) (h0 : 0 < w) : lsb (gE P w) < gR P ∧ (gE P w).testBit (lsb (gE P w)) = true ∧ (∀ i, i < lsb (gE P w) → (gE P w).testBit i = false) ∧ gS P w (lsb (gE P w)) < w := by
  have h1 := hB.2.1 w h0 hw
  have h32 := (hV.2.2.1 w hw).2.2.2.2.2.1
  have h2 := lsb_is (n := gE P w) (by omega) (Nat.lt_trans h32 (by decide))
  have h3 := isL_lt h2 (hC.1.1 w hw).1
  have h4 := (hC.2.2.2.1 w _ hw h3).1
  rw [h2.1] at h4
  exact ⟨h3, h2.1, h2.2, hB.1 _ _ (hV.2.2.2.1 w _ hw h3) hw (of_decide_eq_true h4.symm)⟩
set_option maxHeartbeats 2000000 in
set_option maxRecDepth 20000 in
theorem g_X9_shorterBy_2 {G : GG} {j nw nx gn : Nat} {g : Nat → Sh} {c : Nat → Nat → Int} {post : Option AV → AM → Prop} {w : Nat} {P : GD} {s : Nat} (hM : ML c P) (hV : GV P) (hC : GC P)  (hv : (w < gN P) ∧ (s < gR P) ∧ (1 < 2) ∧ (((((dsc P w 1).testBit s) = true) → post (some (vi (((s : Nat) : Int)))) (S nw nx g, 78 + gn, c)) ∧ ((((dsc P w 1).testBit s) = false) → SW G (j + 1) mX9_shorterBy 2 [some (vr (49)), some (vi (((w : Nat) : Int))), some (vi (((s + 1 : Nat) : Int)))] [] (S nw nx g, 78 + gn, c) B0 post))) :
    SW G (j + 1) mX9_shorterBy 2 [some (vr (49)), some (vi (((w : Nat) : Int))), some (vi (((s : Nat) : Int)))] [] (S nw nx g, 78 + gn, c) B0 post := by
  refine sw_aload_n (dX9_shorterBy.at 2 rfl) rfl rfl ?_
  refine sw_iload_n (dX9_shorterBy.at 3 rfl) rfl rfl ?_
  refine sw_iload_n (dX9_shorterBy.at 4 rfl) rfl rfl ?_
  refine sw_iconst (dX9_shorterBy.at 5 rfl) ?_
  refine sw_callV (B' := B0) (As := [vi (((w : Nat) : Int)), vi (((s : Nat) : Int)), vi (1)]) (mc := 0) (ms := 0) (dX9_shorterBy.at 6 rfl) lk_X9_244 (S_lt 49 (by decide)) (S_49 nw nx g) rfl rfl (Nat.le_of_ble_eq_true rfl) rfl (Nat.le_refl _) (Nat.le_refl _) ?_
  refine c_X9_isShorter (x := w) (s := s) (sd := 1) (j := j + 0) hM hV hC hv.1 hv.2.1 hv.2.2.1 ?_
  replace hv := hv.2.2.2
  refine sw_if_ne (tgt := 18) (dX9_shorterBy.at 7 rfl) (by decide) (bz_rng _) (fun q => ?_) (fun q => ?_)
  · replace hv := hv.1 (bz_1 q)
    refine sw_iload_n (dX9_shorterBy.at 10 rfl) rfl rfl ?_
    exact sw_iret (dX9_shorterBy.at 11 rfl) rfl (Nat.le_refl _) (Nat.le_refl _) hv
  · replace hv := hv.2 (bz_n1 q)
    refine sw_iinc (lo' := [some (vr (49)), some (vi (((w : Nat) : Int))), some (vi (((s + 1 : Nat) : Int)))]) (dX9_shorterBy.at 8 rfl) rfl (by decide) rfl ?_
    refine sw_goto (tgt := 2) (dX9_shorterBy.at 9 rfl) (by decide) ?_
    exact hv

set_option maxHeartbeats 4000000 in
theorem lp_X9_shorterBy_2 {G : GG} {j nw nx gn : Nat} {g : Nat → Sh} {c : Nat → Nat → Int} {post : Option AV → AM → Prop} {P : GD} {w : Nat} (hM : ML c P) (hV : GV P) (hC : GC P) (hB : hBr P) (hw : w < gN P) (h0 : 0 < w) : ∀ (k : Nat) (s : Nat), s + k = lsb (gE P w) → (post (some (vi (((lsb (gE P w) : Nat) : Int)))) (S nw nx g, 78 + gn, c)) → SW G (j + 1) mX9_shorterBy 2 [some (vr (49)), some (vi (((w : Nat) : Int))), some (vi (((s : Nat) : Int)))] [] (S nw nx g, 78 + gn, c) B0 post := by
  intro k
  induction k with
  | zero =>
    intro s hrel  K
    have h1 := sb_ok hV hC hB hw h0
    have e : s = lsb (gE P w) := by omega
    subst e
    refine g_X9_shorterBy_2 hM hV hC ?_
    rw [dsc1]
    refine ⟨?_, ?_, ?_, ⟨fun q => ?_, fun q => ?_⟩⟩
    all_goals first | omega | exact h1.1 | exact K | (exfalso; rw [h1.2.1] at q; exact absurd q (by decide))
  | succ k ih =>
    intro s hrel  K
    have h1 := sb_ok hV hC hB hw h0
    have h2 := h1.2.2.1 s (by omega)
    refine g_X9_shorterBy_2 hM hV hC ?_
    rw [dsc1]
    refine ⟨?_, ?_, ?_, ⟨fun q => ?_, fun q => ?_⟩⟩
    all_goals first | omega | exact ih _ (by omega) K | (exfalso; rw [h2] at q; exact absurd q (by decide))

set_option maxHeartbeats 2000000 in
set_option maxRecDepth 20000 in
theorem g_X9_shorterBy_0 {G : GG} {j nw nx gn : Nat} {g : Nat → Sh} {c : Nat → Nat → Int} {post : Option AV → AM → Prop} {w : Nat}  (hv : SW G (j + 1) mX9_shorterBy 2 [some (vr (49)), some (vi (((w : Nat) : Int))), some (vi (0))] [] (S nw nx g, 78 + gn, c) B0 post) :
    SW G (j + 1) mX9_shorterBy 0 [some (vr (49)), some (vi (((w : Nat) : Int))), none] [] (S nw nx g, 78 + gn, c) B0 post := by
  refine sw_iconst (dX9_shorterBy.at 0 rfl) ?_
  refine sw_istore_n (lo' := [some (vr (49)), some (vi (((w : Nat) : Int))), some (vi (0))]) (dX9_shorterBy.at 1 rfl) rfl (by decide) rfl ?_
  exact hv

set_option maxHeartbeats 2000000 in
theorem c_X9_shorterBy {G : GG} {j nw nx gn : Nat} {g : Nat → Sh} {c : Nat → Nat → Int} {post : Option AV → AM → Prop} {P : GD} {w : Nat} (hM : ML c P) (hV : GV P) (hC : GC P) (hB : hBr P) (p1 : w < gN P) (p2 : 0 < w) (K : post (some (vi (((lsb (gE P w) : Nat) : Int)))) (S nw nx g, 78 + gn, c)) : SM G (j + 2) mX9_shorterBy [vr (49), vi (((w : Nat) : Int))] (S nw nx g, 78 + gn, c) 0 0 post := by
  refine sm_of wX9_shorterBy rfl (Nat.le_of_ble_eq_true rfl) ?_
  refine g_X9_shorterBy_0  ?_
  exact lp_X9_shorterBy_2 hM hV hC hB p1 p2 (lsb (gE P w)) 0 (by omega) K

def BL (P : GD) (F : Nat → Int) (w v : Nat) : Prop := ∀ a b, a < gN P → b < gN P → (b < w ∨ (b = w ∧ a < v)) → F (60 * a + b) = bz ((gD P b).testBit a)
theorem BL_u {P : GD} {F : Nat → Int} {w v : Nat} (hN : gN P ≤ 60) (h : BL P F w v) (hw : w < gN P) {z : Int} (hz : z = bz ((gD P w).testBit v)) : BL P (u1 F (60 * v + w) z) w (v + 1) := by
  intro a b ha hb hh
  by_cases e : 60 * a + b = 60 * v + w
  · have e1 : a = v := by omega
    have e2 : b = w := by omega
    rw [e, u1_eq, hz, e1, e2]
  · rw [u1_ne e]
    exact h a b ha hb (by omega)
set_option maxHeartbeats 2000000 in
set_option maxRecDepth 20000 in
theorem g_X9_laysBelow_0 {G : GG} {j nw nx gn : Nat} {g : Nat → Sh} {c : Nat → Nat → Int} {post : Option AV → AM → Prop} {v : Nat} {w : Nat} {P : GD} {F : Nat → Int} (hM : ML c P) (hV : GV P) (hC : GC P) (hB : hBr P) (hBL : BL P F w v)  (hv : (w < 2147483648) ∧ (((w ≠ 0) → (w < gN P) ∧ (0 < w) ∧ ((v < gN P) ∧ ((lsb (gE P w)) < gR P) ∧ (1 < 2) ∧ (((((dsc P v 1).testBit (lsb (gE P w))) = false) → (w < gN P) ∧ ((lsb (gE P w)) < gR P) ∧ ((v < gN P) ∧ ((gS P w (lsb (gE P w))) < gN P) ∧ ((gS P w (lsb (gE P w))) < w) ∧ (((60 * v) + w < 3600) ∧ (post none (S nw nx g, 78 + gn, (wr c 64 (u1 F ((60 * v) + w) (bz ((gD P (gS P w (lsb (gE P w)))).testBit v))))))))) ∧ ((((dsc P v 1).testBit (lsb (gE P w))) = true) → (v < gN P) ∧ ((lsb (gE P w)) < gR P) ∧ ((w < gN P) ∧ ((lsb (gE P w)) < gR P) ∧ (((gS P v (lsb (gE P w))) < gN P) ∧ ((gS P w (lsb (gE P w))) < gN P) ∧ ((gS P w (lsb (gE P w))) < w) ∧ (((60 * v) + w < 3600) ∧ (post none (S nw nx g, 78 + gn, (wr c 64 (u1 F ((60 * v) + w) (bz ((gD P (gS P w (lsb (gE P w)))).testBit (gS P v (lsb (gE P w)))))))))))))))) ∧ ((w = 0) → (v < 2147483648) ∧ (((v ≠ 0) → (60 * v < 3600) ∧ (post none (S nw nx g, 78 + gn, (wr c 64 (u1 F (60 * v) 0))))) ∧ ((v = 0) → (60 * v < 3600) ∧ (post none (S nw nx g, 78 + gn, (wr c 64 (u1 F (60 * v) 1))))))))) :
    SW G (j + 2) mX9_laysBelow 0 [some (vr (49)), some (vi (((v : Nat) : Int))), some (vi (((w : Nat) : Int))), none, none] [] (S nw nx g, 78 + gn, (wr c 64 F)) B0 post := by
  refine sw_iload_n (dX9_laysBelow.at 0 rfl) rfl rfl ?_
  refine sw_ifN_ne w (tgt := 23) (dX9_laysBelow.at 1 rfl) (by decide) hv.1 (fun q => ?_) (fun q => ?_)
  · replace hv := hv.2.1 q
    refine sw_aload_n (dX9_laysBelow.at 14 rfl) rfl rfl ?_
    refine sw_iload_n (dX9_laysBelow.at 15 rfl) rfl rfl ?_
    refine sw_callV (B' := B0) (As := [vi (((w : Nat) : Int))]) (mc := 0) (ms := 0) (dX9_laysBelow.at 16 rfl) lk_X9_281 (S_lt 49 (by decide)) (S_49 nw nx g) rfl rfl (Nat.le_of_ble_eq_true rfl) rfl (Nat.le_refl _) (Nat.le_refl _) ?_
    refine c_X9_shorterBy (w := w) (j := j + 0) (ML_SD hM (SD_wr SD_rf (a := 64) (f := F) (by decide))) hV hC hB hv.1 hv.2.1 ?_
    replace hv := hv.2.2
    refine sw_istore_n (lo' := [some (vr (49)), some (vi (((v : Nat) : Int))), some (vi (((w : Nat) : Int))), some (vi (((lsb (gE P w) : Nat) : Int))), none]) (dX9_laysBelow.at 17 rfl) rfl (by decide) rfl ?_
    refine sw_aload_n (dX9_laysBelow.at 18 rfl) rfl rfl ?_
    refine sw_iload_n (dX9_laysBelow.at 19 rfl) rfl rfl ?_
    refine sw_iload_n (dX9_laysBelow.at 20 rfl) rfl rfl ?_
    refine sw_iconst (dX9_laysBelow.at 21 rfl) ?_
    refine sw_callV (B' := B0) (As := [vi (((v : Nat) : Int)), vi (((lsb (gE P w) : Nat) : Int)), vi (1)]) (mc := 0) (ms := 0) (dX9_laysBelow.at 22 rfl) lk_X9_244 (S_lt 49 (by decide)) (S_49 nw nx g) rfl rfl (Nat.le_of_ble_eq_true rfl) rfl (Nat.le_refl _) (Nat.le_refl _) ?_
    refine c_X9_isShorter (x := v) (s := (lsb (gE P w))) (sd := 1) (j := j + 1) (ML_SD hM (SD_wr SD_rf (a := 64) (f := F) (by decide))) hV hC hv.1 hv.2.1 hv.2.2.1 ?_
    replace hv := hv.2.2.2
    refine sw_if_eq (tgt := 52) (dX9_laysBelow.at 23 rfl) (by decide) (bz_rng _) (fun q => ?_) (fun q => ?_)
    · replace hv := hv.1 (bz_0 q)
      refine sw_iload_n (dX9_laysBelow.at 33 rfl) rfl rfl ?_
      refine sw_istore (lo' := [some (vr (49)), some (vi (((v : Nat) : Int))), some (vi (((w : Nat) : Int))), some (vi (((lsb (gE P w) : Nat) : Int))), some (vi (((v : Nat) : Int)))]) (dX9_laysBelow.at 34 rfl) (by decide) rfl ?_
      refine sw_aload_n (dX9_laysBelow.at 35 rfl) rfl rfl ?_
      refine sw_getR (dX9_laysBelow.at 36 rfl) fp_X9_56 (S_lt 49 (by decide)) (S_49 nw nx g) rfl rfl ?_
      refine sw_bipush (dX9_laysBelow.at 37 rfl) (by decide) ?_
      refine sw_iload_n (dX9_laysBelow.at 38 rfl) rfl rfl ?_
      refine sw_imul (dX9_laysBelow.at 39 rfl) ?_
      refine sw_topI (y := ((60 * v : Nat) : Int)) (by first | rfl | (congr 1)) ?_
      refine sw_iload_n (dX9_laysBelow.at 40 rfl) rfl rfl ?_
      refine sw_iadd (dX9_laysBelow.at 41 rfl) ?_
      refine sw_topI (y := (((60 * v) + w : Nat) : Int)) (by first | rfl | (congr 1)) ?_
      refine sw_aload_n (dX9_laysBelow.at 42 rfl) rfl rfl ?_
      refine sw_getR (dX9_laysBelow.at 43 rfl) fp_X9_56 (S_lt 49 (by decide)) (S_49 nw nx g) rfl rfl ?_
      refine sw_bipush (dX9_laysBelow.at 44 rfl) (by decide) ?_
      refine sw_iload (dX9_laysBelow.at 45 rfl) rfl ?_
      refine sw_imul (dX9_laysBelow.at 46 rfl) ?_
      refine sw_topI (y := ((60 * v : Nat) : Int)) (by first | rfl | (congr 1)) ?_
      refine sw_aload_n (dX9_laysBelow.at 47 rfl) rfl rfl ?_
      refine sw_getR (dX9_laysBelow.at 48 rfl) fp_X9_26 (S_lt 49 (by decide)) (S_49 nw nx g) rfl rfl ?_
      refine sw_iconst (dX9_laysBelow.at 49 rfl) ?_
      refine sw_iload_n (dX9_laysBelow.at 50 rfl) rfl rfl ?_
      refine sw_imul (dX9_laysBelow.at 51 rfl) ?_
      refine sw_topI (y := ((5 * w : Nat) : Int)) (by first | rfl | (congr 1)) ?_
      refine sw_iload_n (dX9_laysBelow.at 52 rfl) rfl rfl ?_
      refine sw_iadd (dX9_laysBelow.at 53 rfl) ?_
      refine sw_topI (y := (((5 * w) + (lsb (gE P w)) : Nat) : Int)) (by first | rfl | (congr 1)) ?_
      refine sw_ialdN ((5 * w) + (lsb (gE P w))) (w := ((gS P w (lsb (gE P w)) : Nat) : Int)) (dX9_laysBelow.at 54 rfl) (S_lt 54 (by decide)) (S_54 nw nx g) (by decide) (GV_5 hV hv.1 hv.2.1) (ML_S (ML_SD hM (SD_wr SD_rf (a := 64) (f := F) (by decide))) hv.1 hv.2.1) ?_
      replace hv := hv.2.2
      refine sw_iadd (dX9_laysBelow.at 55 rfl) ?_
      refine sw_topI (y := (((60 * v) + (gS P w (lsb (gE P w))) : Nat) : Int)) (by first | rfl | (congr 1)) ?_
      refine sw_zaldN ((60 * v) + (gS P w (lsb (gE P w)))) (w := bz ((gD P (gS P w (lsb (gE P w)))).testBit v)) (dX9_laysBelow.at 56 rfl) (S_lt 64 (by decide)) (S_64 nw nx g) (by decide) (by have := GV_N hV; omega) (hBL _ _ hv.1 hv.2.1 (Or.inl hv.2.2.1)) ?_
      replace hv := hv.2.2.2
      refine sw_zastN ((60 * v) + w) (dX9_laysBelow.at 57 rfl) (S_lt 64 (by decide)) (S_64 nw nx g) (by decide) hv.1 (bz_01 _) ?_
      refine SW.cg (M' := (S nw nx g, 78 + gn, (wr c 64 (u1 F ((60 * v) + w) (bz ((gD P (gS P w (lsb (gE P w)))).testBit v)))))) (congrArg (fun m => (S nw nx g, 78 + gn, m)) (wr_up c 64 F ((60 * v) + w) (bz ((gD P (gS P w (lsb (gE P w)))).testBit v)))) ?_
      replace hv := hv.2
      exact sw_vret (dX9_laysBelow.at 58 rfl) rfl (Nat.le_refl _) (Nat.le_refl _) hv
    · replace hv := hv.2 (bz_n0 q)
      refine sw_aload_n (dX9_laysBelow.at 24 rfl) rfl rfl ?_
      refine sw_getR (dX9_laysBelow.at 25 rfl) fp_X9_26 (S_lt 49 (by decide)) (S_49 nw nx g) rfl rfl ?_
      refine sw_iconst (dX9_laysBelow.at 26 rfl) ?_
      refine sw_iload_n (dX9_laysBelow.at 27 rfl) rfl rfl ?_
      refine sw_imul (dX9_laysBelow.at 28 rfl) ?_
      refine sw_topI (y := ((5 * v : Nat) : Int)) (by first | rfl | (congr 1)) ?_
      refine sw_iload_n (dX9_laysBelow.at 29 rfl) rfl rfl ?_
      refine sw_iadd (dX9_laysBelow.at 30 rfl) ?_
      refine sw_topI (y := (((5 * v) + (lsb (gE P w)) : Nat) : Int)) (by first | rfl | (congr 1)) ?_
      refine sw_ialdN ((5 * v) + (lsb (gE P w))) (w := ((gS P v (lsb (gE P w)) : Nat) : Int)) (dX9_laysBelow.at 31 rfl) (S_lt 54 (by decide)) (S_54 nw nx g) (by decide) (GV_5 hV hv.1 hv.2.1) (ML_S (ML_SD hM (SD_wr SD_rf (a := 64) (f := F) (by decide))) hv.1 hv.2.1) ?_
      replace hv := hv.2.2
      refine sw_goto (tgt := 53) (dX9_laysBelow.at 32 rfl) (by decide) ?_
      refine sw_istore (lo' := [some (vr (49)), some (vi (((v : Nat) : Int))), some (vi (((w : Nat) : Int))), some (vi (((lsb (gE P w) : Nat) : Int))), some (vi (((gS P v (lsb (gE P w)) : Nat) : Int)))]) (dX9_laysBelow.at 34 rfl) (by decide) rfl ?_
      refine sw_aload_n (dX9_laysBelow.at 35 rfl) rfl rfl ?_
      refine sw_getR (dX9_laysBelow.at 36 rfl) fp_X9_56 (S_lt 49 (by decide)) (S_49 nw nx g) rfl rfl ?_
      refine sw_bipush (dX9_laysBelow.at 37 rfl) (by decide) ?_
      refine sw_iload_n (dX9_laysBelow.at 38 rfl) rfl rfl ?_
      refine sw_imul (dX9_laysBelow.at 39 rfl) ?_
      refine sw_topI (y := ((60 * v : Nat) : Int)) (by first | rfl | (congr 1)) ?_
      refine sw_iload_n (dX9_laysBelow.at 40 rfl) rfl rfl ?_
      refine sw_iadd (dX9_laysBelow.at 41 rfl) ?_
      refine sw_topI (y := (((60 * v) + w : Nat) : Int)) (by first | rfl | (congr 1)) ?_
      refine sw_aload_n (dX9_laysBelow.at 42 rfl) rfl rfl ?_
      refine sw_getR (dX9_laysBelow.at 43 rfl) fp_X9_56 (S_lt 49 (by decide)) (S_49 nw nx g) rfl rfl ?_
      refine sw_bipush (dX9_laysBelow.at 44 rfl) (by decide) ?_
      refine sw_iload (dX9_laysBelow.at 45 rfl) rfl ?_
      refine sw_imul (dX9_laysBelow.at 46 rfl) ?_
      refine sw_topI (y := ((60 * (gS P v (lsb (gE P w))) : Nat) : Int)) (by first | rfl | (congr 1)) ?_
      refine sw_aload_n (dX9_laysBelow.at 47 rfl) rfl rfl ?_
      refine sw_getR (dX9_laysBelow.at 48 rfl) fp_X9_26 (S_lt 49 (by decide)) (S_49 nw nx g) rfl rfl ?_
      refine sw_iconst (dX9_laysBelow.at 49 rfl) ?_
      refine sw_iload_n (dX9_laysBelow.at 50 rfl) rfl rfl ?_
      refine sw_imul (dX9_laysBelow.at 51 rfl) ?_
      refine sw_topI (y := ((5 * w : Nat) : Int)) (by first | rfl | (congr 1)) ?_
      refine sw_iload_n (dX9_laysBelow.at 52 rfl) rfl rfl ?_
      refine sw_iadd (dX9_laysBelow.at 53 rfl) ?_
      refine sw_topI (y := (((5 * w) + (lsb (gE P w)) : Nat) : Int)) (by first | rfl | (congr 1)) ?_
      refine sw_ialdN ((5 * w) + (lsb (gE P w))) (w := ((gS P w (lsb (gE P w)) : Nat) : Int)) (dX9_laysBelow.at 54 rfl) (S_lt 54 (by decide)) (S_54 nw nx g) (by decide) (GV_5 hV hv.1 hv.2.1) (ML_S (ML_SD hM (SD_wr SD_rf (a := 64) (f := F) (by decide))) hv.1 hv.2.1) ?_
      replace hv := hv.2.2
      refine sw_iadd (dX9_laysBelow.at 55 rfl) ?_
      refine sw_topI (y := (((60 * (gS P v (lsb (gE P w)))) + (gS P w (lsb (gE P w))) : Nat) : Int)) (by first | rfl | (congr 1)) ?_
      refine sw_zaldN ((60 * (gS P v (lsb (gE P w)))) + (gS P w (lsb (gE P w)))) (w := bz ((gD P (gS P w (lsb (gE P w)))).testBit (gS P v (lsb (gE P w))))) (dX9_laysBelow.at 56 rfl) (S_lt 64 (by decide)) (S_64 nw nx g) (by decide) (by have := GV_N hV; omega) (hBL _ _ hv.1 hv.2.1 (Or.inl hv.2.2.1)) ?_
      replace hv := hv.2.2.2
      refine sw_zastN ((60 * v) + w) (dX9_laysBelow.at 57 rfl) (S_lt 64 (by decide)) (S_64 nw nx g) (by decide) hv.1 (bz_01 _) ?_
      refine SW.cg (M' := (S nw nx g, 78 + gn, (wr c 64 (u1 F ((60 * v) + w) (bz ((gD P (gS P w (lsb (gE P w)))).testBit (gS P v (lsb (gE P w))))))))) (congrArg (fun m => (S nw nx g, 78 + gn, m)) (wr_up c 64 F ((60 * v) + w) (bz ((gD P (gS P w (lsb (gE P w)))).testBit (gS P v (lsb (gE P w))))))) ?_
      replace hv := hv.2
      exact sw_vret (dX9_laysBelow.at 58 rfl) rfl (Nat.le_refl _) (Nat.le_refl _) hv
  · replace hv := hv.2.2 q
    refine sw_aload_n (dX9_laysBelow.at 2 rfl) rfl rfl ?_
    refine sw_getR (dX9_laysBelow.at 3 rfl) fp_X9_56 (S_lt 49 (by decide)) (S_49 nw nx g) rfl rfl ?_
    refine sw_bipush (dX9_laysBelow.at 4 rfl) (by decide) ?_
    refine sw_iload_n (dX9_laysBelow.at 5 rfl) rfl rfl ?_
    refine sw_imul (dX9_laysBelow.at 6 rfl) ?_
    refine sw_topI (y := ((60 * v : Nat) : Int)) (by first | rfl | (congr 1)) ?_
    refine sw_iload_n (dX9_laysBelow.at 7 rfl) rfl rfl ?_
    refine sw_ifN_ne v (tgt := 20) (dX9_laysBelow.at 8 rfl) (by decide) hv.1 (fun q => ?_) (fun q => ?_)
    · replace hv := hv.2.1 q
      refine sw_iconst (dX9_laysBelow.at 11 rfl) ?_
      refine sw_zastN (60 * v) (dX9_laysBelow.at 12 rfl) (S_lt 64 (by decide)) (S_64 nw nx g) (by decide) hv.1 (by decide) ?_
      refine SW.cg (M' := (S nw nx g, 78 + gn, (wr c 64 (u1 F (60 * v) 0)))) (congrArg (fun m => (S nw nx g, 78 + gn, m)) (wr_up c 64 F (60 * v) 0)) ?_
      replace hv := hv.2
      exact sw_vret (dX9_laysBelow.at 13 rfl) rfl (Nat.le_refl _) (Nat.le_refl _) hv
    · replace hv := hv.2.2 q
      refine sw_iconst (dX9_laysBelow.at 9 rfl) ?_
      refine sw_goto (tgt := 21) (dX9_laysBelow.at 10 rfl) (by decide) ?_
      refine sw_zastN (60 * v) (dX9_laysBelow.at 12 rfl) (S_lt 64 (by decide)) (S_64 nw nx g) (by decide) hv.1 (by decide) ?_
      refine SW.cg (M' := (S nw nx g, 78 + gn, (wr c 64 (u1 F (60 * v) 1)))) (congrArg (fun m => (S nw nx g, 78 + gn, m)) (wr_up c 64 F (60 * v) 1)) ?_
      replace hv := hv.2
      exact sw_vret (dX9_laysBelow.at 13 rfl) rfl (Nat.le_refl _) (Nat.le_refl _) hv

set_option maxHeartbeats 4000000 in
theorem c_X9_laysBelow {G : GG} {j nw nx gn : Nat} {g : Nat → Sh} {c : Nat → Nat → Int} {post : Option AV → AM → Prop} {P : GD} {v w : Nat} {F : Nat → Int} (hM : ML c P) (hV : GV P) (hC : GC P) (hB : hBr P) (hBL : BL P F w v) (hv : v < gN P) (hw : w < gN P) (K : ∀ F2 : Nat → Int, BL P F2 w (v + 1) → post none (S nw nx g, 78 + gn, wr c 64 F2)) : SM G (j + 3) mX9_laysBelow [vr 49, vi ((v : Nat) : Int), vi ((w : Nat) : Int)] (S nw nx g, 78 + gn, wr c 64 F) 0 0 post := by
  refine sm_of wX9_laysBelow rfl (Nat.le_of_ble_eq_true rfl) ?_
  have h60 := GV_N hV
  refine g_X9_laysBelow_0 hM hV hC hB hBL ?_
  rw [dsc1]
  by_cases h0 : w = 0
  · subst h0
    have h1 := hB.2.2.1 v hv
    have K2 := fun z hz => K _ (BL_u h60 hBL hw (z := z) hz)
    simp only [Nat.add_zero] at K2
    refine ⟨?_, ⟨fun q => ⟨?_, ?_, ⟨?_, ?_, ?_, ⟨fun q => ⟨?_, ?_, ⟨?_, ?_, ?_, ⟨?_, ?_⟩⟩⟩, fun q => ⟨?_, ?_, ⟨?_, ?_, ⟨?_, ?_, ?_, ⟨?_, ?_⟩⟩⟩⟩⟩⟩⟩, fun q => ⟨?_, ⟨fun q => ⟨?_, ?_⟩, fun q => ⟨?_, ?_⟩⟩⟩⟩⟩
    all_goals first | omega | (exfalso; omega) | exact K2 _ (by rw [h1]; simp [bz, *])
  · obtain ⟨s1, s2, s3, s4⟩ := sb_ok hV hC hB hw (by omega)
    have h1 := hB.2.2.2 v w hv (by omega) hw
    have v1 := hV.2.2.2.1 v _ hv s1
    have w1 := hV.2.2.2.1 w _ hw s1
    refine ⟨?_, ⟨fun q => ⟨?_, ?_, ⟨?_, ?_, ?_, ⟨fun q => ⟨?_, ?_, ⟨?_, ?_, ?_, ⟨?_, ?_⟩⟩⟩, fun q => ⟨?_, ?_, ⟨?_, ?_, ⟨?_, ?_, ?_, ⟨?_, ?_⟩⟩⟩⟩⟩⟩⟩, fun q => ⟨?_, ⟨fun q => ⟨?_, ?_⟩, fun q => ⟨?_, ?_⟩⟩⟩⟩⟩
    all_goals first | omega | assumption | (exfalso; omega) | exact K _ (BL_u h60 hBL hw (by rw [h1, if_pos (by assumption)])) | exact K _ (BL_u h60 hBL hw (by rw [h1, if_neg (by rw [q]; decide)]))

