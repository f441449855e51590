/-! THE REFERENCE: its memory holds the same tables; SC: only what it scratches on has changed -/
def SC (c c2 : Nat → Nat → Int) : Prop := (∀ a, (a < 49 ∨ (49 < a ∧ a < 61) ∨ (63 < a ∧ a < 67) ∨ 72 < a) → c2 a = c a) ∧ ∀ k, k ≠ 27 → c2 49 k = c 49 k
theorem SC_rf {c : Nat → Nat → Int} : SC c c := ⟨fun _ _ => rfl, fun _ _ => rfl⟩
theorem SC_tr {c c2 c3 : Nat → Nat → Int} (h : SC c c2) (h2 : SC c2 c3) : SC c c3 := ⟨fun a ha => (h2.1 a ha).trans (h.1 a ha), fun k hk => (h2.2 k hk).trans (h.2 k hk)⟩
theorem SC_wr {c c2 : Nat → Nat → Int} (h : SC c c2) {a : Nat} {f : Nat → Int} (ha : (60 < a ∧ a < 64) ∨ (66 < a ∧ a < 73)) : SC c (wr c2 a f) := ⟨fun b hb => (wr_offR (by omega)).trans (h.1 b hb), fun k hk => (wr_off (by omega)).trans (h.2 k hk)⟩
theorem SC_up {c c2 : Nat → Nat → Int} (h : SC c c2) {a k : Nat} {z : Int} (ha : (60 < a ∧ a < 64) ∨ (66 < a ∧ a < 73)) : SC c (up2 c2 a k z) := ⟨fun b hb => (up2_off (by omega)).trans (h.1 b hb), fun q hq => (up2_ne (Or.inl (by omega))).trans (h.2 q hq)⟩
theorem SC_27 {c c2 : Nat → Nat → Int} (h : SC c c2) {z : Int} : SC c (up2 c2 49 27 z) := ⟨fun b hb => (up2_off (by omega)).trans (h.1 b hb), fun q hq => (up2_ne (Or.inr hq)).trans (h.2 q hq)⟩
def ML (c : Nat → Nat → Int) (P : GD) : Prop :=
  (c 49 4 = (gR P : Int) ∧ c 49 22 = (gN P : Int) ∧ c 49 21 = (gM P : Int) ∧ c 49 23 = ((gN P - 1 : Nat) : Int) ∧ 0 ≤ c 49 5 ∧ c 49 5 < 1000 ∧ (0 < c 49 5 ↔ 0 < gN P)) ∧
  (∀ s t, s < gR P → t < gR P → c 51 (5 * s + t) = (gBd P s t : Int)) ∧
  (∀ x, x < gN P → c 56 x = (gL P x : Int) ∧ c 59 x = (gI P x : Int) ∧ (0 < x → c 57 x = (gH P x : Int) ∧ c 58 x = (gA P x : Int))) ∧
  (∀ x s, x < gN P → s < gR P → c 54 (5 * x + s) = (gS P x s : Int) ∧ c 55 (5 * x + s) = (gX P (s + 1) x : Int)) ∧
  (∀ i, i < gM P → c 60 i = (gT P i : Int))
section MLs
variable {c : Nat → Nat → Int} {P : GD}
theorem ML_L (h : ML c P) {x : Nat} (hx : x < gN P) : c 56 x = (gL P x : Int) := (h.2.2.1 x hx).1
theorem ML_I (h : ML c P) {x : Nat} (hx : x < gN P) : c 59 x = (gI P x : Int) := (h.2.2.1 x hx).2.1
theorem ML_H (h : ML c P) {x : Nat} (hx : x < gN P) (h0 : 0 < x) : c 57 x = (gH P x : Int) := ((h.2.2.1 x hx).2.2 h0).1
theorem ML_A (h : ML c P) {x : Nat} (hx : x < gN P) (h0 : 0 < x) : c 58 x = (gA P x : Int) := ((h.2.2.1 x hx).2.2 h0).2
theorem ML_T (h : ML c P) {i : Nat} (hi : i < gM P) : c 60 i = (gT P i : Int) := h.2.2.2.2 i hi
theorem ML_S (h : ML c P) {x s : Nat} (hx : x < gN P) (hs : s < gR P) : c 54 (5 * x + s) = (gS P x s : Int) := (h.2.2.2.1 x s hx hs).1
theorem ML_Ah (h : ML c P) {x s : Nat} (hx : x < gN P) (hs : s < gR P) : c 55 (5 * x + s) = (gX P (s + 1) x : Int) := (h.2.2.2.1 x s hx hs).2
theorem ML_B (h : ML c P) {x s : Nat} (hx : x < gR P) (hs : s < gR P) : c 51 (5 * x + s) = (gBd P x s : Int) := h.2.1 x s hx hs
theorem GV_5 (hV : GV P) {x s : Nat} (hx : x < gN P) (hs : s < gR P) : 5 * x + s < 300 := by
  have := GV_N hV; have := GV_R hV; omega
theorem GV_5r (hV : GV P) {x s : Nat} (hx : x < gR P) (hs : s < gR P) : 5 * x + s < 25 := by
  have := GV_R hV; omega
theorem ML_SC (h : ML c P) {c2 : Nat → Nat → Int} (hs : SC c c2) : ML c2 P := by
  obtain ⟨⟨h1, h2, h3, h4, h5, h6, h7⟩, h8, h9, h10, h11⟩ := h
  have e := hs.2
  refine ⟨⟨(e 4 (by decide)).trans h1, (e 22 (by decide)).trans h2, (e 21 (by decide)).trans h3, (e 23 (by decide)).trans h4, by rw [e 5 (by decide)]; exact h5, by rw [e 5 (by decide)]; exact h6, by rw [e 5 (by decide)]; exact h7⟩, ?_, ?_, ?_, ?_⟩
  · rw [hs.1 51 (by omega)]; exact h8
  · rw [hs.1 56 (by omega), hs.1 59 (by omega), hs.1 57 (by omega), hs.1 58 (by omega)]; exact h9
  · rw [hs.1 54 (by omega), hs.1 55 (by omega)]; exact h10
  · rw [hs.1 60 (by omega)]; exact h11
end MLs
set_option maxHeartbeats 2000000 in
set_option maxRecDepth 20000 in
theorem g_X9_in_0 {G : GG} {j nw nx gn : Nat} {g : Nat → Sh} {c : Nat → Nat → Int} {post : Option AV → AM → Prop} {u : Int} {lo : Int} {hi : Int}  (hv : (-9223372036854775808 ≤ u ∧ u < 9223372036854775808) ∧ (-9223372036854775808 ≤ lo ∧ lo < 9223372036854775808) ∧ (((u < lo) → post (some (vi (0))) (S nw nx g, 78 + gn, c)) ∧ ((¬ (u < lo)) → (-9223372036854775808 ≤ u ∧ u < 9223372036854775808) ∧ (-9223372036854775808 ≤ hi ∧ hi < 9223372036854775808) ∧ (((hi < u) → post (some (vi (0))) (S nw nx g, 78 + gn, c)) ∧ ((¬ (hi < u)) → post (some (vi (1))) (S nw nx g, 78 + gn, c)))))) :
    SW G (j + 0) mX9_in 0 [some (vl (u)), none, some (vl (lo)), none, some (vl (hi)), none] [] (S nw nx g, 78 + gn, c) B0 post := by
  refine sw_lload_n (dX9_in.at 0 rfl) rfl rfl ?_
  refine sw_lload_n (dX9_in.at 1 rfl) rfl rfl ?_
  refine sw_lcmp_lt (tgt := 17) (dX9_in.at 2 rfl) (dX9_in.at 3 rfl) (by decide) hv.1 hv.2.1 (fun q => ?_) (fun q => ?_)
  · replace hv := hv.2.2.1 q
    refine sw_iconst (dX9_in.at 10 rfl) ?_
    exact sw_zret (dX9_in.at 11 rfl) rfl (by decide) (Nat.le_refl _) (Nat.le_refl _) hv
  · replace hv := hv.2.2.2 q
    refine sw_lload_n (dX9_in.at 4 rfl) rfl rfl ?_
    refine sw_lload (dX9_in.at 5 rfl) rfl ?_
    refine sw_lcmp_gt (tgt := 17) (dX9_in.at 6 rfl) (dX9_in.at 7 rfl) (by decide) hv.1 hv.2.1 (fun q => ?_) (fun q => ?_)
    · replace hv := hv.2.2.1 q
      refine sw_iconst (dX9_in.at 10 rfl) ?_
      exact sw_zret (dX9_in.at 11 rfl) rfl (by decide) (Nat.le_refl _) (Nat.le_refl _) hv
    · replace hv := hv.2.2.2 q
      refine sw_iconst (dX9_in.at 8 rfl) ?_
      refine sw_goto (tgt := 18) (dX9_in.at 9 rfl) (by decide) ?_
      exact sw_zret (dX9_in.at 11 rfl) rfl (by decide) (Nat.le_refl _) (Nat.le_refl _) hv

set_option maxHeartbeats 2000000 in
theorem c_X9_in {G : GG} {j nw nx gn : Nat} {g : Nat → Sh} {c : Nat → Nat → Int} {post : Option AV → AM → Prop} {u : Int} {lo : Int} {hi : Int} (p1 : -9223372036854775808 ≤ (u : Int) ∧ (u : Int) < 9223372036854775808) (p2 : -9223372036854775808 ≤ (lo : Int) ∧ (lo : Int) < 9223372036854775808) (p3 : -9223372036854775808 ≤ (hi : Int) ∧ (hi : Int) < 9223372036854775808) (K : post (some (vi (bz (decide (lo ≤ u ∧ u ≤ hi))))) (S nw nx g, 78 + gn, c)) : SM G (j + 1) mX9_in [vl (u), vl (lo), vl (hi)] (S nw nx g, 78 + gn, c) 0 0 post := by
  refine sm_of wX9_in rfl (Nat.le_of_ble_eq_true rfl) ?_
  refine g_X9_in_0  ?_
  have K1 : ∀ v : Int, v = bz (decide (lo ≤ u ∧ u ≤ hi)) → post (some (vi v)) (S nw nx g, 78 + gn, c) := fun v h => h ▸ K
  refine ⟨?_, ?_, ⟨fun q => ?_, fun q => ⟨?_, ?_, ⟨fun q => ?_, fun q => ?_⟩⟩⟩⟩
  all_goals first | assumption | omega | (refine K1 _ ?_; simp only [bz, decide_eq_true_eq]; split <;> omega)

set_option maxHeartbeats 2000000 in
set_option maxRecDepth 20000 in
theorem g_X9_has_0 {G : GG} {j nw nx gn : Nat} {g : Nat → Sh} {c : Nat → Nat → Int} {post : Option AV → AM → Prop} {s : Nat} {i : Nat}  (hv : (s < 9223372036854775808) ∧ (i < 64) ∧ (((s / 2 ^ i) &&& 1 < 9223372036854775808) ∧ ((((s / 2 ^ i) &&& 1 ≠ 1) → post (some (vi (0))) (S nw nx g, 78 + gn, c)) ∧ (((s / 2 ^ i) &&& 1 = 1) → post (some (vi (1))) (S nw nx g, 78 + gn, c))))) :
    SW G (j + 0) mX9_has 0 [some (vl (((s : Nat) : Int))), none, some (vi (((i : Nat) : Int)))] [] (S nw nx g, 78 + gn, c) B0 post := by
  refine sw_lload_n (dX9_has.at 0 rfl) rfl rfl ?_
  refine sw_iload_n (dX9_has.at 1 rfl) rfl rfl ?_
  refine sw_lshrN s i (dX9_has.at 2 rfl) hv.1 hv.2.1 ?_
  replace hv := hv.2.2
  refine sw_lconst (z := 1) (dX9_has.at 3 rfl) (by decide) ?_
  refine sw_landN (s / 2 ^ i) 1 (dX9_has.at 4 rfl) ?_
  refine sw_lconst (z := 1) (dX9_has.at 5 rfl) (by decide) ?_
  refine sw_lcmpN_ne ((s / 2 ^ i) &&& 1) 1 (tgt := 14) (dX9_has.at 6 rfl) (dX9_has.at 7 rfl) (by decide) hv.1 (by decide) (fun q => ?_) (fun q => ?_)
  · replace hv := hv.2.1 q
    refine sw_iconst (dX9_has.at 10 rfl) ?_
    exact sw_zret (dX9_has.at 11 rfl) rfl (by decide) (Nat.le_refl _) (Nat.le_refl _) hv
  · replace hv := hv.2.2 q
    refine sw_iconst (dX9_has.at 8 rfl) ?_
    refine sw_goto (tgt := 15) (dX9_has.at 9 rfl) (by decide) ?_
    exact sw_zret (dX9_has.at 11 rfl) rfl (by decide) (Nat.le_refl _) (Nat.le_refl _) hv

set_option maxHeartbeats 2000000 in
theorem c_X9_has {G : GG} {j nw nx gn : Nat} {g : Nat → Sh} {c : Nat → Nat → Int} {post : Option AV → AM → Prop} {s : Nat} {i : Nat} (p1 : s < 9223372036854775808) (p2 : i < 64) (K : post (some (vi (bz (s.testBit i)))) (S nw nx g, 78 + gn, c)) : SM G (j + 1) mX9_has [vl (((s : Nat) : Int)), vi (((i : Nat) : Int))] (S nw nx g, 78 + gn, c) 0 0 post := by
  refine sm_of wX9_has rfl (Nat.le_of_ble_eq_true rfl) ?_
  refine g_X9_has_0  ?_
  have e : (s / 2 ^ i &&& 1) < 9223372036854775808 := Nat.lt_of_le_of_lt Nat.and_le_right (by decide)
  have e1 : (s / 2 ^ i &&& 1) ≤ 1 := Nat.and_le_right
  have hb := bit_of s i
  cases h : s.testBit i with
  | false =>
    rw [h] at K
    have h2 := hb.mpr h
    refine ⟨?_, ?_, ⟨?_, ⟨fun q => ?_, fun q => ?_⟩⟩⟩
    all_goals first | exact K | omega | (exfalso; omega)
  | true =>
    rw [h] at K
    have h2 : ¬ (s / 2 ^ i &&& 1 = 0) := fun q => by rw [hb.mp q] at h; exact absurd h (by decide)
    refine ⟨?_, ?_, ⟨?_, ⟨fun q => ?_, fun q => ?_⟩⟩⟩
    all_goals first | exact K | omega | (exfalso; omega)

set_option maxHeartbeats 2000000 in
set_option maxRecDepth 20000 in
theorem g_X9_is_0 {G : GG} {j nw nx gn : Nat} {g : Nat → Sh} {c : Nat → Nat → Int} {post : Option AV → AM → Prop} {P : GD} (hM : ML c P) (hV : GV P)  (hv : (-2147483648 ≤ c 49 5 ∧ c 49 5 < 2147483648) ∧ (((c 49 5 ≤ 0) → post (some (vi (0))) (S nw nx g, 78 + gn, c)) ∧ ((¬ (c 49 5 ≤ 0)) → post (some (vi (1))) (S nw nx g, 78 + gn, c)))) :
    SW G (j + 0) mX9_is 0 [some (vr (49))] [] (S nw nx g, 78 + gn, c) B0 post := by
  refine sw_aload_n (dX9_is.at 0 rfl) rfl rfl ?_
  refine sw_getI (dX9_is.at 1 rfl) fp_X9_180 (S_lt 49 (by decide)) (S_49 nw nx g) rfl ?_
  refine sw_if_le (tgt := 11) (dX9_is.at 2 rfl) (by decide) hv.1 (fun q => ?_) (fun q => ?_)
  · replace hv := hv.2.1 q
    refine sw_iconst (dX9_is.at 5 rfl) ?_
    exact sw_zret (dX9_is.at 6 rfl) rfl (by decide) (Nat.le_refl _) (Nat.le_refl _) hv
  · replace hv := hv.2.2 q
    refine sw_iconst (dX9_is.at 3 rfl) ?_
    refine sw_goto (tgt := 12) (dX9_is.at 4 rfl) (by decide) ?_
    exact sw_zret (dX9_is.at 6 rfl) rfl (by decide) (Nat.le_refl _) (Nat.le_refl _) hv

set_option maxHeartbeats 2000000 in
theorem c_X9_is {G : GG} {j nw nx gn : Nat} {g : Nat → Sh} {c : Nat → Nat → Int} {post : Option AV → AM → Prop} {P : GD} (hM : ML c P) (hV : GV P) (K : post (some (vi (bz (decide (0 < gN P))))) (S nw nx g, 78 + gn, c)) : SM G (j + 1) mX9_is [vr (49)] (S nw nx g, 78 + gn, c) 0 0 post := by
  refine sm_of wX9_is rfl (Nat.le_of_ble_eq_true rfl) ?_
  refine g_X9_is_0 hM hV ?_
  have h1 := hM.1.2.2.2.2.1
  have h2 := hM.1.2.2.2.2.2.1
  have h3 := hM.1.2.2.2.2.2.2
  have K1 : ∀ v : Int, v = bz (decide (0 < gN P)) → post (some (vi v)) (S nw nx g, 78 + gn, c) := fun v h => h ▸ K
  refine ⟨?_, ⟨fun q => ?_, fun q => ?_⟩⟩
  all_goals first | omega | (refine K1 _ ?_; have : 0 < gN P := (by omega); simp [bz, this]; done) | (refine K1 _ ?_; have : ¬ 0 < gN P := (by omega); simp [bz, this]; done)

set_option maxHeartbeats 2000000 in
set_option maxRecDepth 20000 in
theorem g_X9_isElement_0 {G : GG} {j nw nx gn : Nat} {g : Nat → Sh} {c : Nat → Nat → Int} {post : Option AV → AM → Prop} {x : Int} {P : GD} (hM : ML c P) (hV : GV P)  (hv : (-2147483648 ≤ x ∧ x < 2147483648) ∧ ((-2147483648 ≤ ((gN P : Nat) : Int) - 1 ∧ ((gN P : Nat) : Int) - 1 < 2147483648) ∧ ((-9223372036854775808 ≤ (x : Int) ∧ (x : Int) < 9223372036854775808) ∧ (-9223372036854775808 ≤ (0 : Int) ∧ (0 : Int) < 9223372036854775808) ∧ (-9223372036854775808 ≤ ((((gN P : Nat) : Int) - 1) : Int) ∧ ((((gN P : Nat) : Int) - 1) : Int) < 9223372036854775808) ∧ (post (some (vi (bz (decide (0 ≤ x ∧ x ≤ (((gN P : Nat) : Int) - 1)))))) (S nw nx g, 78 + gn, c))))) :
    SW G (j + 1) mX9_isElement 0 [some (vr (49)), some (vi (x))] [] (S nw nx g, 78 + gn, c) B0 post := by
  refine sw_iload_n (dX9_isElement.at 0 rfl) rfl rfl ?_
  refine sw_i2l (dX9_isElement.at 1 rfl) hv.1 ?_
  replace hv := hv.2
  refine sw_lconst (z := 0) (dX9_isElement.at 2 rfl) (by decide) ?_
  refine sw_aload_n (dX9_isElement.at 3 rfl) rfl rfl ?_
  refine sw_getIE (w := ((gN P : Nat) : Int)) (dX9_isElement.at 4 rfl) fp_X9_196 (S_lt 49 (by decide)) (S_49 nw nx g) rfl hM.1.2.1 ?_
  refine sw_iconst (dX9_isElement.at 5 rfl) ?_
  refine sw_isub (dX9_isElement.at 6 rfl) ?_
  refine sw_i2l (dX9_isElement.at 7 rfl) hv.1 ?_
  replace hv := hv.2
  refine sw_callS (post' := post) (B' := B0) (As := [vl (x), vl (0), vl (((gN P : Nat) : Int) - 1)]) (mc := 0) (ms := 0) (dX9_isElement.at 8 rfl) lk_X9_104 rfl rfl (Nat.le_of_ble_eq_true rfl) rfl (Nat.le_refl _) (Nat.le_refl _) ?_
  refine c_X9_in (u := x) (lo := 0) (hi := (((gN P : Nat) : Int) - 1)) (j := j + 0) hv.1 hv.2.1 hv.2.2.1 ?_
  replace hv := hv.2.2.2
  exact sw_zret (dX9_isElement.at 9 rfl) rfl (bz_01 _) (Nat.le_refl _) (Nat.le_refl _) hv

set_option maxHeartbeats 2000000 in
theorem c_X9_isElement {G : GG} {j nw nx gn : Nat} {g : Nat → Sh} {c : Nat → Nat → Int} {post : Option AV → AM → Prop} {P : GD} {x : Int} (hM : ML c P) (hV : GV P) (p1 : -2147483648 ≤ x ∧ x < 2147483648) (K : post (some (vi (bz (decide (0 ≤ x ∧ x < (gN P : Int)))))) (S nw nx g, 78 + gn, c)) : SM G (j + 2) mX9_isElement [vr (49), vi (x)] (S nw nx g, 78 + gn, c) 0 0 post := by
  refine sm_of wX9_isElement rfl (Nat.le_of_ble_eq_true rfl) ?_
  refine g_X9_isElement_0 hM hV ?_
  have := GV_N hV
  have := GV_R hV
  have h32 := p2_R hV
  have K1 : ∀ v : Int, v = bz (decide (0 ≤ x ∧ x < (gN P : Int))) → post (some (vi v)) (S nw nx g, 78 + gn, c) := fun v h => h ▸ K
  refine ⟨?_, ⟨?_, ⟨?_, ?_, ?_, ?_⟩⟩⟩
  all_goals first | omega | assumption | (refine K1 _ ?_; congr 1; simp only [decide_eq_decide]; omega)

set_option maxHeartbeats 2000000 in
set_option maxRecDepth 20000 in
theorem g_X9_isLetter_0 {G : GG} {j nw nx gn : Nat} {g : Nat → Sh} {c : Nat → Nat → Int} {post : Option AV → AM → Prop} {x : Int} {P : GD} (hM : ML c P) (hV : GV P)  (hv : (-2147483648 ≤ x ∧ x < 2147483648) ∧ ((-2147483648 ≤ ((gR P : Nat) : Int) - 1 ∧ ((gR P : Nat) : Int) - 1 < 2147483648) ∧ ((-9223372036854775808 ≤ (x : Int) ∧ (x : Int) < 9223372036854775808) ∧ (-9223372036854775808 ≤ (0 : Int) ∧ (0 : Int) < 9223372036854775808) ∧ (-9223372036854775808 ≤ ((((gR P : Nat) : Int) - 1) : Int) ∧ ((((gR P : Nat) : Int) - 1) : Int) < 9223372036854775808) ∧ (post (some (vi (bz (decide (0 ≤ x ∧ x ≤ (((gR P : Nat) : Int) - 1)))))) (S nw nx g, 78 + gn, c))))) :
    SW G (j + 1) mX9_isLetter 0 [some (vr (49)), some (vi (x))] [] (S nw nx g, 78 + gn, c) B0 post := by
  refine sw_iload_n (dX9_isLetter.at 0 rfl) rfl rfl ?_
  refine sw_i2l (dX9_isLetter.at 1 rfl) hv.1 ?_
  replace hv := hv.2
  refine sw_lconst (z := 0) (dX9_isLetter.at 2 rfl) (by decide) ?_
  refine sw_aload_n (dX9_isLetter.at 3 rfl) rfl rfl ?_
  refine sw_getIE (w := ((gR P : Nat) : Int)) (dX9_isLetter.at 4 rfl) fp_X9_159 (S_lt 49 (by decide)) (S_49 nw nx g) rfl hM.1.1 ?_
  refine sw_iconst (dX9_isLetter.at 5 rfl) ?_
  refine sw_isub (dX9_isLetter.at 6 rfl) ?_
  refine sw_i2l (dX9_isLetter.at 7 rfl) hv.1 ?_
  replace hv := hv.2
  refine sw_callS (post' := post) (B' := B0) (As := [vl (x), vl (0), vl (((gR P : Nat) : Int) - 1)]) (mc := 0) (ms := 0) (dX9_isLetter.at 8 rfl) lk_X9_104 rfl rfl (Nat.le_of_ble_eq_true rfl) rfl (Nat.le_refl _) (Nat.le_refl _) ?_
  refine c_X9_in (u := x) (lo := 0) (hi := (((gR P : Nat) : Int) - 1)) (j := j + 0) hv.1 hv.2.1 hv.2.2.1 ?_
  replace hv := hv.2.2.2
  exact sw_zret (dX9_isLetter.at 9 rfl) rfl (bz_01 _) (Nat.le_refl _) (Nat.le_refl _) hv

set_option maxHeartbeats 2000000 in
theorem c_X9_isLetter {G : GG} {j nw nx gn : Nat} {g : Nat → Sh} {c : Nat → Nat → Int} {post : Option AV → AM → Prop} {P : GD} {x : Int} (hM : ML c P) (hV : GV P) (p1 : -2147483648 ≤ x ∧ x < 2147483648) (K : post (some (vi (bz (decide (0 ≤ x ∧ x < (gR P : Int)))))) (S nw nx g, 78 + gn, c)) : SM G (j + 2) mX9_isLetter [vr (49), vi (x)] (S nw nx g, 78 + gn, c) 0 0 post := by
  refine sm_of wX9_isLetter rfl (Nat.le_of_ble_eq_true rfl) ?_
  refine g_X9_isLetter_0 hM hV ?_
  have := GV_N hV
  have := GV_R hV
  have h32 := p2_R hV
  have K1 : ∀ v : Int, v = bz (decide (0 ≤ x ∧ x < (gR P : Int))) → post (some (vi v)) (S nw nx g, 78 + gn, c) := fun v h => h ▸ K
  refine ⟨?_, ⟨?_, ⟨?_, ?_, ?_, ?_⟩⟩⟩
  all_goals first | omega | assumption | (refine K1 _ ?_; congr 1; simp only [decide_eq_decide]; omega)

set_option maxHeartbeats 2000000 in
set_option maxRecDepth 20000 in
theorem g_X9_isSet_0 {G : GG} {j nw nx gn : Nat} {g : Nat → Sh} {c : Nat → Nat → Int} {post : Option AV → AM → Prop} {x : Int} {P : GD} (hM : ML c P) (hV : GV P)  (hv : (((decide (0 < gN P)) = false) → post (some (vi (0))) (S nw nx g, 78 + gn, c)) ∧ (((decide (0 < gN P)) = true) → (-2147483648 ≤ x ∧ x < 2147483648) ∧ ((gR P < 32) ∧ ((-2147483648 ≤ ((1 * 2 ^ (gR P) : Nat) : Int) - 1 ∧ ((1 * 2 ^ (gR P) : Nat) : Int) - 1 < 2147483648) ∧ ((-9223372036854775808 ≤ (x : Int) ∧ (x : Int) < 9223372036854775808) ∧ (-9223372036854775808 ≤ (0 : Int) ∧ (0 : Int) < 9223372036854775808) ∧ (-9223372036854775808 ≤ ((((1 * 2 ^ (gR P) : Nat) : Int) - 1) : Int) ∧ ((((1 * 2 ^ (gR P) : Nat) : Int) - 1) : Int) < 9223372036854775808) ∧ ((((decide (0 ≤ x ∧ x ≤ (((1 * 2 ^ (gR P) : Nat) : Int) - 1))) = false) → post (some (vi (0))) (S nw nx g, 78 + gn, c)) ∧ (((decide (0 ≤ x ∧ x ≤ (((1 * 2 ^ (gR P) : Nat) : Int) - 1))) = true) → post (some (vi (1))) (S nw nx g, 78 + gn, c)))))))) :
    SW G (j + 1) mX9_isSet 0 [some (vr (49)), some (vi (x))] [] (S nw nx g, 78 + gn, c) B0 post := by
  refine sw_aload_n (dX9_isSet.at 0 rfl) rfl rfl ?_
  refine sw_callV (B' := B0) (As := []) (mc := 0) (ms := 0) (dX9_isSet.at 1 rfl) lk_X9_248 (S_lt 49 (by decide)) (S_49 nw nx g) rfl rfl (Nat.le_of_ble_eq_true rfl) rfl (Nat.le_refl _) (Nat.le_refl _) ?_
  refine c_X9_is  (j := j + 0) hM hV ?_
  refine sw_if_eq (tgt := 29) (dX9_isSet.at 2 rfl) (by decide) (bz_rng _) (fun q => ?_) (fun q => ?_)
  · replace hv := hv.1 (bz_0 q)
    refine sw_iconst (dX9_isSet.at 17 rfl) ?_
    exact sw_zret (dX9_isSet.at 18 rfl) rfl (by decide) (Nat.le_refl _) (Nat.le_refl _) hv
  · replace hv := hv.2 (bz_n0 q)
    refine sw_iload_n (dX9_isSet.at 3 rfl) rfl rfl ?_
    refine sw_i2l (dX9_isSet.at 4 rfl) hv.1 ?_
    replace hv := hv.2
    refine sw_lconst (z := 0) (dX9_isSet.at 5 rfl) (by decide) ?_
    refine sw_iconst (dX9_isSet.at 6 rfl) ?_
    refine sw_aload_n (dX9_isSet.at 7 rfl) rfl rfl ?_
    refine sw_getIE (w := ((gR P : Nat) : Int)) (dX9_isSet.at 8 rfl) fp_X9_159 (S_lt 49 (by decide)) (S_49 nw nx g) rfl hM.1.1 ?_
    refine sw_ishlN 1 (gR P) (dX9_isSet.at 9 rfl) hv.1 ?_
    replace hv := hv.2
    refine sw_iconst (dX9_isSet.at 10 rfl) ?_
    refine sw_isub (dX9_isSet.at 11 rfl) ?_
    refine sw_i2l (dX9_isSet.at 12 rfl) hv.1 ?_
    replace hv := hv.2
    refine sw_callS (post' := post) (B' := B0) (As := [vl (x), vl (0), vl (((1 * 2 ^ (gR P) : Nat) : Int) - 1)]) (mc := 0) (ms := 0) (dX9_isSet.at 13 rfl) lk_X9_104 rfl rfl (Nat.le_of_ble_eq_true rfl) rfl (Nat.le_refl _) (Nat.le_refl _) ?_
    refine c_X9_in (u := x) (lo := 0) (hi := (((1 * 2 ^ (gR P) : Nat) : Int) - 1)) (j := j + 0) hv.1 hv.2.1 hv.2.2.1 ?_
    replace hv := hv.2.2.2
    refine sw_if_eq (tgt := 29) (dX9_isSet.at 14 rfl) (by decide) (bz_rng _) (fun q => ?_) (fun q => ?_)
    · replace hv := hv.1 (bz_0 q)
      refine sw_iconst (dX9_isSet.at 17 rfl) ?_
      exact sw_zret (dX9_isSet.at 18 rfl) rfl (by decide) (Nat.le_refl _) (Nat.le_refl _) hv
    · replace hv := hv.2 (bz_n0 q)
      refine sw_iconst (dX9_isSet.at 15 rfl) ?_
      refine sw_goto (tgt := 30) (dX9_isSet.at 16 rfl) (by decide) ?_
      exact sw_zret (dX9_isSet.at 18 rfl) rfl (by decide) (Nat.le_refl _) (Nat.le_refl _) hv

set_option maxHeartbeats 2000000 in
theorem c_X9_isSet {G : GG} {j nw nx gn : Nat} {g : Nat → Sh} {c : Nat → Nat → Int} {post : Option AV → AM → Prop} {P : GD} {x : Int} (hM : ML c P) (hV : GV P) (p1 : -2147483648 ≤ x ∧ x < 2147483648) (K : post (some (vi (bz (decide (0 < gN P ∧ 0 ≤ x ∧ x < ((2 ^ gR P : Nat) : Int)))))) (S nw nx g, 78 + gn, c)) : SM G (j + 2) mX9_isSet [vr (49), vi (x)] (S nw nx g, 78 + gn, c) 0 0 post := by
  refine sm_of wX9_isSet rfl (Nat.le_of_ble_eq_true rfl) ?_
  refine g_X9_isSet_0 hM hV ?_
  have := GV_N hV
  have := GV_R hV
  have h32 := p2_R hV
  have K1 : ∀ v : Int, v = bz (decide (0 < gN P ∧ 0 ≤ x ∧ x < ((2 ^ gR P : Nat) : Int))) → post (some (vi v)) (S nw nx g, 78 + gn, c) := fun v h => h ▸ K
  generalize 2 ^ gR P = q at *
  simp only [Nat.one_mul]
  refine ⟨fun q => ?_, fun q => ⟨?_, ⟨?_, ⟨?_, ⟨?_, ?_, ?_, ⟨fun q => ?_, fun q => ?_⟩⟩⟩⟩⟩⟩
  all_goals (try simp only [decide_eq_true_eq, decide_eq_false_iff_not] at *)
  all_goals first | omega | assumption | (refine K1 _ ?_; simp only [bz, decide_eq_true_eq]; (repeat' split) <;> first | rfl | omega)

