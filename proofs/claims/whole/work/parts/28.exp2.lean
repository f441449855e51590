abbrev SF := Nat → Nat → (Nat → Int) → Nat → Nat → Int
def exX (F : SF) (P : GD) (s t : Nat) (f : Nat → Int) : Nat → Nat → Int
  | 0 => f
  | x + 1 => if (gE P x).testBit s then exX F P s t f x else F (x * 16) (gS P x s * 16) (exX F P s t f x) (min t 15 + 1)
def exF (F : SF) (P : GD) (w : Nat) (f : Nat → Int) : Nat → Nat → Int
  | 0 => f
  | i + 1 => exX F P (gLet P w i) (i + 1) (exF F P w f i) (gN P)
def ag9 (f f2 : Nat → Int) : Prop := ∀ i, i < 960 → f i = f2 i
theorem u1_ag {f f2 : Nat → Int} (h : ag9 f f2) {k : Nat} {z z2 : Int} (hz : z = z2) : ag9 (u1 f k z) (u1 f2 k z2) := by
  intro i hi
  subst hz
  simp only [u1]
  split
  · rfl
  · exact h i hi
def SFg (F : SF) : Prop := ∀ l h k f f2, l + k ≤ 960 → h + k ≤ 960 → ag9 f f2 → ag9 (F l h f k) (F l h f2 k)
theorem srF_g : SFg srF := by
  intro l h k
  induction k with
  | zero => intro f f2 _ _ h; exact h
  | succ k ih =>
    intro f f2 hl hh h
    rw [srF, srF]
    refine ih _ _ (by omega) (by omega) (u1_ag (u1_ag h ?_) (h _ (by omega)))
    rw [h (l + k) (by omega)]
    split
    · rfl
    · rw [h _ (by omega), h _ (by omega)]
theorem spF_g : SFg spF := by
  intro l h k
  induction k with
  | zero => intro f f2 _ _ h; exact h
  | succ k ih =>
    intro f f2 hl hh h
    rw [spF, spF]
    refine ih _ _ (by omega) (by omega) (u1_ag (u1_ag h ?_) ?_)
    · rw [h _ (by omega), h (_ + k) (by omega)]
      split
      · rfl
      · rw [h _ (by omega)]
    · split
      · rfl
      · rw [h _ (by omega)]
theorem exX_g {F : SF} (hF : SFg F) {P : GD} (hV : GV P) {s t : Nat} (hs : s < gR P) {f f2 : Nat → Int} (h : ag9 f f2) : ∀ x, x ≤ gN P → ag9 (exX F P s t f x) (exX F P s t f2 x) := by
  have h60 := GV_N hV
  intro x
  induction x with
  | zero => intro _; exact h
  | succ x ih =>
    intro hx
    have hb := hV.2.2.2.1 x s (by omega) hs
    rw [exX, exX]
    split
    · exact ih (by omega)
    · exact hF _ _ _ _ _ (by omega) (by omega) (ih (by omega))
theorem exF_g {F : SF} (hF : SFg F) {P : GD} (hV : GV P) {w : Nat} (hw : w < gN P) {f f2 : Nat → Int} (h : ag9 f f2) : ∀ i, ag9 (exF F P w f i) (exF F P w f2 i) := by
  intro i
  induction i with
  | zero => exact h
  | succ i ih => rw [exF, exF]; exact exX_g hF hV (gLet_lt hV hw) ih _ (Nat.le_refl _)
def st0 (x : Nat) : Nat → Int := fun i => if i = x * 16 then 1 else 0
theorem st0_ag (f : Nat → Int) (x : Nat) : ag9 (u1 (z1 f 960) (x * 16) 1) (st0 x) := by
  intro i hi
  simp only [u1, st0]
  split
  · rfl
  · exact z1_in f 960 i hi
set_option maxHeartbeats 2000000 in
set_option maxRecDepth 20000 in
theorem g_X2_unfoldR_7 {G : GG} {j nw nx gn : Nat} {g : Nat → Sh} {c : Nat → Nat → Int} {post : Option AV → AM → Prop} {e : Nat} {w : Nat} (he : e = 21 ∨ e = 35) {P : GD} {i : Nat} {f : Nat → Int} (hE : EL c e P) (hV : GV P)  (hv : (w < gN P) ∧ ((i < 2147483648) ∧ (gL P w < 2147483648) ∧ (((gL P w ≤ i) → post none (S nw nx g, 78 + gn, (wr c 10 f))) ∧ ((¬ (gL P w ≤ i)) → (w < gN P) ∧ (i < gL P w) ∧ (SW G (j + 1) mX2_unfoldR 28 [some (vr (9)), some (vr (e)), some (vi (((w : Nat) : Int))), some (vi (((i : Nat) : Int))), some (vi (((gLet P w i : Nat) : Int))), some (vi (0))] [] (S nw nx g, 78 + gn, (wr c 10 f)) B0 post))))) :
    SW G (j + 1) mX2_unfoldR 7 [some (vr (9)), some (vr (e)), some (vi (((w : Nat) : Int))), some (vi (((i : Nat) : Int))), none, none] [] (S nw nx g, 78 + gn, (wr c 10 f)) B0 post := by
  refine sw_iload_n (dX2_unfoldR.at 5 rfl) rfl rfl ?_
  refine sw_aload_n (dX2_unfoldR.at 6 rfl) rfl rfl ?_
  refine sw_getR (dX2_unfoldR.at 7 rfl) fp_X2_19 (S_e_lt he) (S_e he) rfl rfl ?_
  refine sw_iload_n (dX2_unfoldR.at 8 rfl) rfl rfl ?_
  refine sw_ialdN w (w := ((gL P w : Nat) : Int)) (dX2_unfoldR.at 9 rfl) (S_ek_lt he (by decide)) (S_e_2 he) (by decide) (GV_lt hV hv.1) (EL_L (EL_wr (a := 10) (f := f) hE he (by decide)) hv.1) ?_
  replace hv := hv.2
  refine sw_icmpN_ge i (gL P w) (tgt := 88) (dX2_unfoldR.at 10 rfl) (by decide) hv.1 hv.2.1 (fun q => ?_) (fun q => ?_)
  · replace hv := hv.2.2.1 q
    exact sw_vret (dX2_unfoldR.at 48 rfl) rfl (Nat.le_refl _) (Nat.le_refl _) hv
  · replace hv := hv.2.2.2 q
    refine sw_aload_n (dX2_unfoldR.at 11 rfl) rfl rfl ?_
    refine sw_iload_n (dX2_unfoldR.at 12 rfl) rfl rfl ?_
    refine sw_iload_n (dX2_unfoldR.at 13 rfl) rfl rfl ?_
    refine sw_callV (B' := B0) (As := [vi (((w : Nat) : Int)), vi (((i : Nat) : Int))]) (mc := 0) (ms := 0) (dX2_unfoldR.at 14 rfl) lk_X2_24 (S_e_lt he) (S_e he) rfl rfl (Nat.le_of_ble_eq_true rfl) rfl (Nat.le_refl _) (Nat.le_refl _) ?_
    refine c_X1_letterOf (e := e) (x := w) (i := i) (j := j + 0) he (EL_wr (a := 10) (f := f) hE he (by decide)) hV hv.1 hv.2.1 ?_
    replace hv := hv.2.2
    refine sw_istore (lo' := [some (vr (9)), some (vr (e)), some (vi (((w : Nat) : Int))), some (vi (((i : Nat) : Int))), some (vi (((gLet P w i : Nat) : Int))), none]) (dX2_unfoldR.at 15 rfl) (by decide) rfl ?_
    refine sw_iconst (dX2_unfoldR.at 16 rfl) ?_
    refine sw_istore (lo' := [some (vr (9)), some (vr (e)), some (vi (((w : Nat) : Int))), some (vi (((i : Nat) : Int))), some (vi (((gLet P w i : Nat) : Int))), some (vi (0))]) (dX2_unfoldR.at 17 rfl) (by decide) rfl ?_
    exact hv

set_option maxHeartbeats 2000000 in
set_option maxRecDepth 20000 in
theorem g_X2_unfoldR_28 {G : GG} {j nw nx gn : Nat} {g : Nat → Sh} {c : Nat → Nat → Int} {post : Option AV → AM → Prop} {e : Nat} {w : Nat} (he : e = 21 ∨ e = 35) {P : GD} {i : Nat} {s : Nat} {x : Nat} {f : Nat → Int} (hE : EL c e P) (hV : GV P)  (hv : (x < 2147483648) ∧ (gN P < 2147483648) ∧ (((gN P ≤ x) → SW G (j + 1) mX2_unfoldR 7 [some (vr (9)), some (vr (e)), some (vi (((w : Nat) : Int))), some (vi (((i + 1 : Nat) : Int))), none, none] [] (S nw nx g, 78 + gn, (wr c 10 f)) B0 post) ∧ ((¬ (gN P ≤ x)) → (x < gN P) ∧ ((gE P x < 2147483648) ∧ (((gE P x) < 9223372036854775808) ∧ (s < 64) ∧ (((((gE P x).testBit s) = true) → SW G (j + 1) mX2_unfoldR 28 [some (vr (9)), some (vr (e)), some (vi (((w : Nat) : Int))), some (vi (((i : Nat) : Int))), some (vi (((s : Nat) : Int))), some (vi (((x + 1 : Nat) : Int)))] [] (S nw nx g, 78 + gn, (wr c 10 f)) B0 post) ∧ ((((gE P x).testBit s) = false) → (x < gN P) ∧ (s < gR P) ∧ (((x * 16) + 16 ≤ 960) ∧ (((gS P x s) * 16) + 16 ≤ 960) ∧ ((i + 1) < 100) ∧ (SW G (j + 1) mX2_unfoldR 28 [some (vr (9)), some (vr (e)), some (vi (((w : Nat) : Int))), some (vi (((i : Nat) : Int))), some (vi (((s : Nat) : Int))), some (vi (((x + 1 : Nat) : Int)))] [] (S nw nx g, 78 + gn, (wr (wr c 10 f) 10 (srF (x * 16) ((gS P x s) * 16) ((wr c 10 f) 10) (min (i + 1) 15 + 1)))) B0 post))))))))) :
    SW G (j + 1) mX2_unfoldR 28 [some (vr (9)), some (vr (e)), some (vi (((w : Nat) : Int))), some (vi (((i : Nat) : Int))), some (vi (((s : Nat) : Int))), some (vi (((x : Nat) : Int)))] [] (S nw nx g, 78 + gn, (wr c 10 f)) B0 post := by
  refine sw_iload (dX2_unfoldR.at 18 rfl) rfl ?_
  refine sw_aload_n (dX2_unfoldR.at 19 rfl) rfl rfl ?_
  refine sw_getIE (w := ((gN P : Nat) : Int)) (dX2_unfoldR.at 20 rfl) fp_X2_28 (S_e_lt he) (S_e he) rfl ((wr_off (c := c) (a := 10) (f := f) (i := e) (k := 14) (by omega)).trans (EL_N hE)) ?_
  refine sw_icmpN_ge x (gN P) (tgt := 82) (dX2_unfoldR.at 21 rfl) (by decide) hv.1 hv.2.1 (fun q => ?_) (fun q => ?_)
  · replace hv := hv.2.2.1 q
    refine sw_iinc (lo' := [some (vr (9)), some (vr (e)), some (vi (((w : Nat) : Int))), some (vi (((i + 1 : Nat) : Int))), some (vi (((s : Nat) : Int))), some (vi (((x : Nat) : Int)))]) (dX2_unfoldR.at 46 rfl) rfl (by decide) rfl ?_
    refine sw_goto (tgt := 7) (dX2_unfoldR.at 47 rfl) (by decide) ?_
    exact sw_mask (bs := [true, true, true, true, false, false]) hv
  · replace hv := hv.2.2.2 q
    refine sw_aload_n (dX2_unfoldR.at 22 rfl) rfl rfl ?_
    refine sw_getR (dX2_unfoldR.at 23 rfl) fp_X2_32 (S_e_lt he) (S_e he) rfl rfl ?_
    refine sw_iload (dX2_unfoldR.at 24 rfl) rfl ?_
    refine sw_ialdN x (w := ((gE P x : Nat) : Int)) (dX2_unfoldR.at 25 rfl) (S_ek_lt he (by decide)) (S_e_9 he) (by decide) (GV_lt hV hv.1) (EL_E (EL_wr (a := 10) (f := f) hE he (by decide)) hv.1) ?_
    replace hv := hv.2
    refine sw_i2l (dX2_unfoldR.at 26 rfl) (nrng hv.1) ?_
    replace hv := hv.2
    refine sw_iload (dX2_unfoldR.at 27 rfl) rfl ?_
    refine sw_callN (B' := B0) (As := [vl (((gE P x : Nat) : Int)), vi (((s : Nat) : Int))]) (mc := 0) (ms := 0) (dX2_unfoldR.at 28 rfl) lk_X2_35 rfl rfl (Nat.le_of_ble_eq_true rfl) rfl (Nat.le_refl _) (Nat.le_refl _) ?_
    refine c_X8_hasBit (s := (gE P x)) (i := s) (j := j + 0) hv.1 hv.2.1 ?_
    replace hv := hv.2.2
    refine sw_if_ne (tgt := 76) (dX2_unfoldR.at 29 rfl) (by decide) (bz_rng _) (fun q => ?_) (fun q => ?_)
    · replace hv := hv.1 (bz_1 q)
      refine sw_iinc (lo' := [some (vr (9)), some (vr (e)), some (vi (((w : Nat) : Int))), some (vi (((i : Nat) : Int))), some (vi (((s : Nat) : Int))), some (vi (((x + 1 : Nat) : Int)))]) (dX2_unfoldR.at 44 rfl) rfl (by decide) rfl ?_
      refine sw_goto (tgt := 28) (dX2_unfoldR.at 45 rfl) (by decide) ?_
      exact hv
    · replace hv := hv.2 (bz_n1 q)
      refine sw_aload_n (dX2_unfoldR.at 30 rfl) rfl rfl ?_
      refine sw_iload (dX2_unfoldR.at 31 rfl) rfl ?_
      refine sw_bipush (dX2_unfoldR.at 32 rfl) (by decide) ?_
      refine sw_imul (dX2_unfoldR.at 33 rfl) ?_
      refine sw_topI (y := ((x * 16 : Nat) : Int)) (by first | rfl | (congr 1)) ?_
      refine sw_aload_n (dX2_unfoldR.at 34 rfl) rfl rfl ?_
      refine sw_iload (dX2_unfoldR.at 35 rfl) rfl ?_
      refine sw_iload (dX2_unfoldR.at 36 rfl) rfl ?_
      refine sw_callV (B' := B0) (As := [vi (((x : Nat) : Int)), vi (((s : Nat) : Int))]) (mc := 0) (ms := 0) (dX2_unfoldR.at 37 rfl) lk_X2_39 (S_e_lt he) (S_e he) rfl rfl (Nat.le_of_ble_eq_true rfl) rfl (Nat.le_refl _) (Nat.le_refl _) ?_
      refine c_X1_byP (e := e) (x := x) (s := s) (j := j + 0) he (EL_wr (a := 10) (f := f) hE he (by decide)) hV hv.1 hv.2.1 ?_
      replace hv := hv.2.2
      refine sw_bipush (dX2_unfoldR.at 38 rfl) (by decide) ?_
      refine sw_imul (dX2_unfoldR.at 39 rfl) ?_
      refine sw_topI (y := (((gS P x s) * 16 : Nat) : Int)) (by first | rfl | (congr 1)) ?_
      refine sw_iload_n (dX2_unfoldR.at 40 rfl) rfl rfl ?_
      refine sw_iconst (dX2_unfoldR.at 41 rfl) ?_
      refine sw_iadd (dX2_unfoldR.at 42 rfl) ?_
      refine sw_topI (y := ((i + 1 : Nat) : Int)) (by first | rfl | (congr 1)) ?_
      refine sw_callV (B' := B0) (As := [vi (((x * 16 : Nat) : Int)), vi ((((gS P x s) * 16 : Nat) : Int)), vi (((i + 1 : Nat) : Int))]) (mc := 0) (ms := 0) (dX2_unfoldR.at 43 rfl) lk_X2_42 (S_lt 9 (by decide)) (S_9 nw nx g) rfl rfl (Nat.le_of_ble_eq_true rfl) rfl (Nat.le_refl _) (Nat.le_refl _) ?_
      refine c_X2_stepR (l := (x * 16)) (h := ((gS P x s) * 16)) (t := (i + 1)) (j := j + 0) hv.1 hv.2.1 hv.2.2.1 ?_
      replace hv := hv.2.2.2
      refine sw_iinc (lo' := [some (vr (9)), some (vr (e)), some (vi (((w : Nat) : Int))), some (vi (((i : Nat) : Int))), some (vi (((s : Nat) : Int))), some (vi (((x + 1 : Nat) : Int)))]) (dX2_unfoldR.at 44 rfl) rfl (by decide) rfl ?_
      refine sw_goto (tgt := 28) (dX2_unfoldR.at 45 rfl) (by decide) ?_
      exact hv

set_option maxHeartbeats 2000000 in
theorem lp_X2_unfoldR_28 {G : GG} {j nw nx gn : Nat} {g : Nat → Sh} {c : Nat → Nat → Int} {post : Option AV → AM → Prop} {P : GD} {e w i s : Nat} (he : e = 21 ∨ e = 35) (hE : EL c e P) (hV : GV P) (hs : s < gR P) (hi : i < 60) {f : Nat → Int} (K : SW G (j + 1) mX2_unfoldR 7 [some (vr (9)), some (vr (e)), some (vi (((w : Nat) : Int))), some (vi (((i + 1 : Nat) : Int))), none, none] [] (S nw nx g, 78 + gn, wr c 10 (exX srF P s (i + 1) f (gN P))) B0 post) :
    ∀ k x : Nat, x + k = gN P → SW G (j + 1) mX2_unfoldR 28 [some (vr (9)), some (vr (e)), some (vi (((w : Nat) : Int))), some (vi (((i : Nat) : Int))), some (vi (((s : Nat) : Int))), some (vi (((x : Nat) : Int)))] [] (S nw nx g, 78 + gn, wr c 10 (exX srF P s (i + 1) f x)) B0 post := by
  have h60 := GV_N hV
  have h5 := GV_R hV
  intro k
  induction k with
  | zero =>
    intro x hx
    have e2 : x = gN P := by omega
    subst e2
    refine g_X2_unfoldR_28 he hE hV ?_
    refine ⟨?_, ?_, ⟨fun q => ?_, fun q => ⟨?_, ⟨?_, ⟨?_, ?_, ⟨fun q => ?_, fun q => ⟨?_, ?_, ⟨?_, ?_, ?_, ?_⟩⟩⟩⟩⟩⟩⟩⟩
    all_goals first | exact K | omega | (exfalso; omega)
  | succ k ih =>
    intro x hx
    have fE := (hV.2.2.1 x (by omega)).2.2.2.2.2.1
    have fS := hV.2.2.2.1 x s (by omega) hs
    have h := ih (x + 1) (by omega)
    rw [exX] at h
    refine g_X2_unfoldR_28 he hE hV ?_
    refine ⟨?_, ?_, ⟨fun q => ?_, fun q => ⟨?_, ⟨?_, ⟨?_, ?_, ⟨fun q => ?_, fun q => ⟨?_, ?_, ⟨?_, ?_, ?_, ?_⟩⟩⟩⟩⟩⟩⟩⟩
    all_goals first | omega | assumption | (exfalso; omega) | (rw [if_pos q] at h; exact h) | (rw [if_neg (by rw [q]; decide)] at h; simpa only [wr_wr, wr_at] using h)

set_option maxHeartbeats 2000000 in
theorem lp_X2_unfoldR_7 {G : GG} {j nw nx gn : Nat} {g : Nat → Sh} {c : Nat → Nat → Int} {post : Option AV → AM → Prop} {P : GD} {e w : Nat} (he : e = 21 ∨ e = 35) (hE : EL c e P) (hV : GV P) (hw : w < gN P) {f : Nat → Int} (K : post none (S nw nx g, 78 + gn, wr c 10 (exF srF P w f (gL P w)))) :
    ∀ k i : Nat, i + k = gL P w → SW G (j + 1) mX2_unfoldR 7 [some (vr (9)), some (vr (e)), some (vi (((w : Nat) : Int))), some (vi (((i : Nat) : Int))), none, none] [] (S nw nx g, 78 + gn, wr c 10 (exF srF P w f i)) B0 post := by
  have h60 := GV_N hV
  have h13 := (hV.2.2.1 w hw).1
  intro k
  induction k with
  | zero =>
    intro i hi
    have e2 : i = gL P w := by omega
    subst e2
    refine g_X2_unfoldR_7 he hE hV ?_
    refine ⟨?_, ⟨?_, ?_, ⟨fun q => ?_, fun q => ⟨?_, ?_, ?_⟩⟩⟩⟩
    all_goals first | exact K | omega | (exfalso; omega)
  | succ k ih =>
    intro i hi
    have h := ih (i + 1) (by omega)
    rw [exF] at h
    have h2 := lp_X2_unfoldR_28 (G := G) (j := j) (nw := nw) (nx := nx) (gn := gn) (g := g) (post := post) (w := w) he hE hV (gLet_lt hV hw (i := i)) (by omega) h (gN P) 0 (by omega)
    rw [exX] at h2
    refine g_X2_unfoldR_7 he hE hV ?_
    refine ⟨?_, ⟨?_, ?_, ⟨fun q => ?_, fun q => ⟨?_, ?_, ?_⟩⟩⟩⟩
    all_goals first | omega | assumption | (exfalso; omega) | exact h2

set_option maxHeartbeats 2000000 in
set_option maxRecDepth 20000 in
theorem g_X2_unfoldR_0 {G : GG} {j nw nx gn : Nat} {g : Nat → Sh} {c : Nat → Nat → Int} {post : Option AV → AM → Prop} {e : Nat} {w : Nat} (he : e = 21 ∨ e = 35) {P : GD} (hE : EL c e P) (hV : GV P)  (hv : (0 < 60) ∧ (SW G (j + 1) mX2_unfoldR 7 [some (vr (9)), some (vr (e)), some (vi (((w : Nat) : Int))), some (vi (0)), none, none] [] (S nw nx g, 78 + gn, (wr c 10 (u1 (z1 (c 10) 960) (0 * 16) 1))) B0 post)) :
    SW G (j + 1) mX2_unfoldR 0 [some (vr (9)), some (vr (e)), some (vi (((w : Nat) : Int))), none, none, none] [] (S nw nx g, 78 + gn, c) B0 post := by
  refine sw_aload_n (dX2_unfoldR.at 0 rfl) rfl rfl ?_
  refine sw_iconst (dX2_unfoldR.at 1 rfl) ?_
  refine sw_callV (B' := B0) (As := [vi (0)]) (mc := 0) (ms := 0) (dX2_unfoldR.at 2 rfl) lk_X2_15 (S_lt 9 (by decide)) (S_9 nw nx g) rfl rfl (Nat.le_of_ble_eq_true rfl) rfl (Nat.le_refl _) (Nat.le_refl _) ?_
  refine c_X2_start (x := 0) (j := j + 0) hv.1 ?_
  replace hv := hv.2
  refine sw_iconst (dX2_unfoldR.at 3 rfl) ?_
  refine sw_istore_n (lo' := [some (vr (9)), some (vr (e)), some (vi (((w : Nat) : Int))), some (vi (0)), none, none]) (dX2_unfoldR.at 4 rfl) rfl (by decide) rfl ?_
  exact hv

set_option maxHeartbeats 2000000 in
theorem c_X2_unfoldR {G : GG} {j nw nx gn : Nat} {g : Nat → Sh} {c : Nat → Nat → Int} {post : Option AV → AM → Prop} {P : GD} {e : Nat} {w : Nat} (he : e = 21 ∨ e = 35) (hE : EL c e P) (hV : GV P) (p1 : w < gN P) (K : ∀ c2 : Nat → Nat → Int, c2 = wr c 10 (c2 10) ∧ ag9 (c2 10) (exF srF P w (st0 0) (gL P w)) → post none (S nw nx g, 78 + gn, c2)) : SM G (j + 2) mX2_unfoldR [vr (9), vr (e), vi (((w : Nat) : Int))] (S nw nx g, 78 + gn, c) 0 0 post := by
  refine sm_of wX2_unfoldR rfl (Nat.le_of_ble_eq_true rfl) ?_
  refine g_X2_unfoldR_0 he hE hV ?_
  have h60 := GV_N hV
  have K2 := K (wr c 10 (exF srF P w (u1 (z1 (c 10) 960) (0 * 16) 1) (gL P w))) ⟨by rw [wr_at], by rw [wr_at]; exact exF_g srF_g hV (by assumption) (st0_ag _ _) _⟩
  have h2 := lp_X2_unfoldR_7 (G := G) (j := j) (nw := nw) (nx := nx) (gn := gn) (g := g) (post := post) (w := w) he hE hV (by assumption) K2 (gL P w) 0 (by omega)
  rw [exF] at h2
  refine ⟨?_, ?_⟩
  all_goals first | omega | assumption | exact h2

set_option maxHeartbeats 2000000 in
set_option maxRecDepth 20000 in
theorem g_X2_unfoldProduct_8 {G : GG} {j nw nx gn : Nat} {g : Nat → Sh} {c : Nat → Nat → Int} {post : Option AV → AM → Prop} {e : Nat} {v : Nat} {w : Nat} (he : e = 21 ∨ e = 35) {P : GD} {i : Nat} {f : Nat → Int} (hE : EL c e P) (hV : GV P)  (hv : (w < gN P) ∧ ((i < 2147483648) ∧ (gL P w < 2147483648) ∧ (((gL P w ≤ i) → post none (S nw nx g, 78 + gn, (wr c 10 f))) ∧ ((¬ (gL P w ≤ i)) → (w < gN P) ∧ (i < gL P w) ∧ (SW G (j + 1) mX2_unfoldProduct 31 [some (vr (9)), some (vr (e)), some (vi (((v : Nat) : Int))), some (vi (((w : Nat) : Int))), some (vi (((i : Nat) : Int))), some (vi (((gLet P w i : Nat) : Int))), some (vi (0))] [] (S nw nx g, 78 + gn, (wr c 10 f)) B0 post))))) :
    SW G (j + 1) mX2_unfoldProduct 8 [some (vr (9)), some (vr (e)), some (vi (((v : Nat) : Int))), some (vi (((w : Nat) : Int))), some (vi (((i : Nat) : Int))), none, none] [] (S nw nx g, 78 + gn, (wr c 10 f)) B0 post := by
  refine sw_iload (dX2_unfoldProduct.at 5 rfl) rfl ?_
  refine sw_aload_n (dX2_unfoldProduct.at 6 rfl) rfl rfl ?_
  refine sw_getR (dX2_unfoldProduct.at 7 rfl) fp_X2_19 (S_e_lt he) (S_e he) rfl rfl ?_
  refine sw_iload_n (dX2_unfoldProduct.at 8 rfl) rfl rfl ?_
  refine sw_ialdN w (w := ((gL P w : Nat) : Int)) (dX2_unfoldProduct.at 9 rfl) (S_ek_lt he (by decide)) (S_e_2 he) (by decide) (GV_lt hV hv.1) (EL_L (EL_wr (a := 10) (f := f) hE he (by decide)) hv.1) ?_
  replace hv := hv.2
  refine sw_icmpN_ge i (gL P w) (tgt := 92) (dX2_unfoldProduct.at 10 rfl) (by decide) hv.1 hv.2.1 (fun q => ?_) (fun q => ?_)
  · replace hv := hv.2.2.1 q
    exact sw_vret (dX2_unfoldProduct.at 48 rfl) rfl (Nat.le_refl _) (Nat.le_refl _) hv
  · replace hv := hv.2.2.2 q
    refine sw_aload_n (dX2_unfoldProduct.at 11 rfl) rfl rfl ?_
    refine sw_iload_n (dX2_unfoldProduct.at 12 rfl) rfl rfl ?_
    refine sw_iload (dX2_unfoldProduct.at 13 rfl) rfl ?_
    refine sw_callV (B' := B0) (As := [vi (((w : Nat) : Int)), vi (((i : Nat) : Int))]) (mc := 0) (ms := 0) (dX2_unfoldProduct.at 14 rfl) lk_X2_24 (S_e_lt he) (S_e he) rfl rfl (Nat.le_of_ble_eq_true rfl) rfl (Nat.le_refl _) (Nat.le_refl _) ?_
    refine c_X1_letterOf (e := e) (x := w) (i := i) (j := j + 0) he (EL_wr (a := 10) (f := f) hE he (by decide)) hV hv.1 hv.2.1 ?_
    replace hv := hv.2.2
    refine sw_istore (lo' := [some (vr (9)), some (vr (e)), some (vi (((v : Nat) : Int))), some (vi (((w : Nat) : Int))), some (vi (((i : Nat) : Int))), some (vi (((gLet P w i : Nat) : Int))), none]) (dX2_unfoldProduct.at 15 rfl) (by decide) rfl ?_
    refine sw_iconst (dX2_unfoldProduct.at 16 rfl) ?_
    refine sw_istore (lo' := [some (vr (9)), some (vr (e)), some (vi (((v : Nat) : Int))), some (vi (((w : Nat) : Int))), some (vi (((i : Nat) : Int))), some (vi (((gLet P w i : Nat) : Int))), some (vi (0))]) (dX2_unfoldProduct.at 17 rfl) (by decide) rfl ?_
    exact hv

set_option maxHeartbeats 2000000 in
set_option maxRecDepth 20000 in
theorem g_X2_unfoldProduct_31 {G : GG} {j nw nx gn : Nat} {g : Nat → Sh} {c : Nat → Nat → Int} {post : Option AV → AM → Prop} {e : Nat} {v : Nat} {w : Nat} (he : e = 21 ∨ e = 35) {P : GD} {i : Nat} {s : Nat} {x : Nat} {f : Nat → Int} (hE : EL c e P) (hV : GV P)  (hv : (x < 2147483648) ∧ (gN P < 2147483648) ∧ (((gN P ≤ x) → SW G (j + 1) mX2_unfoldProduct 8 [some (vr (9)), some (vr (e)), some (vi (((v : Nat) : Int))), some (vi (((w : Nat) : Int))), some (vi (((i + 1 : Nat) : Int))), none, none] [] (S nw nx g, 78 + gn, (wr c 10 f)) B0 post) ∧ ((¬ (gN P ≤ x)) → (x < gN P) ∧ ((gE P x < 2147483648) ∧ (((gE P x) < 9223372036854775808) ∧ (s < 64) ∧ (((((gE P x).testBit s) = true) → SW G (j + 1) mX2_unfoldProduct 31 [some (vr (9)), some (vr (e)), some (vi (((v : Nat) : Int))), some (vi (((w : Nat) : Int))), some (vi (((i : Nat) : Int))), some (vi (((s : Nat) : Int))), some (vi (((x + 1 : Nat) : Int)))] [] (S nw nx g, 78 + gn, (wr c 10 f)) B0 post) ∧ ((((gE P x).testBit s) = false) → (x < gN P) ∧ (s < gR P) ∧ (((x * 16) + 16 ≤ 960) ∧ (((gS P x s) * 16) + 16 ≤ 960) ∧ ((i + 1) < 100) ∧ (SW G (j + 1) mX2_unfoldProduct 31 [some (vr (9)), some (vr (e)), some (vi (((v : Nat) : Int))), some (vi (((w : Nat) : Int))), some (vi (((i : Nat) : Int))), some (vi (((s : Nat) : Int))), some (vi (((x + 1 : Nat) : Int)))] [] (S nw nx g, 78 + gn, (wr (wr c 10 f) 10 (spF (x * 16) ((gS P x s) * 16) ((wr c 10 f) 10) (min (i + 1) 15 + 1)))) B0 post))))))))) :
    SW G (j + 1) mX2_unfoldProduct 31 [some (vr (9)), some (vr (e)), some (vi (((v : Nat) : Int))), some (vi (((w : Nat) : Int))), some (vi (((i : Nat) : Int))), some (vi (((s : Nat) : Int))), some (vi (((x : Nat) : Int)))] [] (S nw nx g, 78 + gn, (wr c 10 f)) B0 post := by
  refine sw_iload (dX2_unfoldProduct.at 18 rfl) rfl ?_
  refine sw_aload_n (dX2_unfoldProduct.at 19 rfl) rfl rfl ?_
  refine sw_getIE (w := ((gN P : Nat) : Int)) (dX2_unfoldProduct.at 20 rfl) fp_X2_28 (S_e_lt he) (S_e he) rfl ((wr_off (c := c) (a := 10) (f := f) (i := e) (k := 14) (by omega)).trans (EL_N hE)) ?_
  refine sw_icmpN_ge x (gN P) (tgt := 86) (dX2_unfoldProduct.at 21 rfl) (by decide) hv.1 hv.2.1 (fun q => ?_) (fun q => ?_)
  · replace hv := hv.2.2.1 q
    refine sw_iinc (lo' := [some (vr (9)), some (vr (e)), some (vi (((v : Nat) : Int))), some (vi (((w : Nat) : Int))), some (vi (((i + 1 : Nat) : Int))), some (vi (((s : Nat) : Int))), some (vi (((x : Nat) : Int)))]) (dX2_unfoldProduct.at 46 rfl) rfl (by decide) rfl ?_
    refine sw_goto (tgt := 8) (dX2_unfoldProduct.at 47 rfl) (by decide) ?_
    exact sw_mask (bs := [true, true, true, true, true, false, false]) hv
  · replace hv := hv.2.2.2 q
    refine sw_aload_n (dX2_unfoldProduct.at 22 rfl) rfl rfl ?_
    refine sw_getR (dX2_unfoldProduct.at 23 rfl) fp_X2_32 (S_e_lt he) (S_e he) rfl rfl ?_
    refine sw_iload (dX2_unfoldProduct.at 24 rfl) rfl ?_
    refine sw_ialdN x (w := ((gE P x : Nat) : Int)) (dX2_unfoldProduct.at 25 rfl) (S_ek_lt he (by decide)) (S_e_9 he) (by decide) (GV_lt hV hv.1) (EL_E (EL_wr (a := 10) (f := f) hE he (by decide)) hv.1) ?_
    replace hv := hv.2
    refine sw_i2l (dX2_unfoldProduct.at 26 rfl) (nrng hv.1) ?_
    replace hv := hv.2
    refine sw_iload (dX2_unfoldProduct.at 27 rfl) rfl ?_
    refine sw_callN (B' := B0) (As := [vl (((gE P x : Nat) : Int)), vi (((s : Nat) : Int))]) (mc := 0) (ms := 0) (dX2_unfoldProduct.at 28 rfl) lk_X2_35 rfl rfl (Nat.le_of_ble_eq_true rfl) rfl (Nat.le_refl _) (Nat.le_refl _) ?_
    refine c_X8_hasBit (s := (gE P x)) (i := s) (j := j + 0) hv.1 hv.2.1 ?_
    replace hv := hv.2.2
    refine sw_if_ne (tgt := 80) (dX2_unfoldProduct.at 29 rfl) (by decide) (bz_rng _) (fun q => ?_) (fun q => ?_)
    · replace hv := hv.1 (bz_1 q)
      refine sw_iinc (lo' := [some (vr (9)), some (vr (e)), some (vi (((v : Nat) : Int))), some (vi (((w : Nat) : Int))), some (vi (((i : Nat) : Int))), some (vi (((s : Nat) : Int))), some (vi (((x + 1 : Nat) : Int)))]) (dX2_unfoldProduct.at 44 rfl) rfl (by decide) rfl ?_
      refine sw_goto (tgt := 31) (dX2_unfoldProduct.at 45 rfl) (by decide) ?_
      exact hv
    · replace hv := hv.2 (bz_n1 q)
      refine sw_aload_n (dX2_unfoldProduct.at 30 rfl) rfl rfl ?_
      refine sw_iload (dX2_unfoldProduct.at 31 rfl) rfl ?_
      refine sw_bipush (dX2_unfoldProduct.at 32 rfl) (by decide) ?_
      refine sw_imul (dX2_unfoldProduct.at 33 rfl) ?_
      refine sw_topI (y := ((x * 16 : Nat) : Int)) (by first | rfl | (congr 1)) ?_
      refine sw_aload_n (dX2_unfoldProduct.at 34 rfl) rfl rfl ?_
      refine sw_iload (dX2_unfoldProduct.at 35 rfl) rfl ?_
      refine sw_iload (dX2_unfoldProduct.at 36 rfl) rfl ?_
      refine sw_callV (B' := B0) (As := [vi (((x : Nat) : Int)), vi (((s : Nat) : Int))]) (mc := 0) (ms := 0) (dX2_unfoldProduct.at 37 rfl) lk_X2_39 (S_e_lt he) (S_e he) rfl rfl (Nat.le_of_ble_eq_true rfl) rfl (Nat.le_refl _) (Nat.le_refl _) ?_
      refine c_X1_byP (e := e) (x := x) (s := s) (j := j + 0) he (EL_wr (a := 10) (f := f) hE he (by decide)) hV hv.1 hv.2.1 ?_
      replace hv := hv.2.2
      refine sw_bipush (dX2_unfoldProduct.at 38 rfl) (by decide) ?_
      refine sw_imul (dX2_unfoldProduct.at 39 rfl) ?_
      refine sw_topI (y := (((gS P x s) * 16 : Nat) : Int)) (by first | rfl | (congr 1)) ?_
      refine sw_iload (dX2_unfoldProduct.at 40 rfl) rfl ?_
      refine sw_iconst (dX2_unfoldProduct.at 41 rfl) ?_
      refine sw_iadd (dX2_unfoldProduct.at 42 rfl) ?_
      refine sw_topI (y := ((i + 1 : Nat) : Int)) (by first | rfl | (congr 1)) ?_
      refine sw_callV (B' := B0) (As := [vi (((x * 16 : Nat) : Int)), vi ((((gS P x s) * 16 : Nat) : Int)), vi (((i + 1 : Nat) : Int))]) (mc := 0) (ms := 0) (dX2_unfoldProduct.at 43 rfl) lk_X2_46 (S_lt 9 (by decide)) (S_9 nw nx g) rfl rfl (Nat.le_of_ble_eq_true rfl) rfl (Nat.le_refl _) (Nat.le_refl _) ?_
      refine c_X2_stepProduct (l := (x * 16)) (h := ((gS P x s) * 16)) (t := (i + 1)) (j := j + 0) hv.1 hv.2.1 hv.2.2.1 ?_
      replace hv := hv.2.2.2
      refine sw_iinc (lo' := [some (vr (9)), some (vr (e)), some (vi (((v : Nat) : Int))), some (vi (((w : Nat) : Int))), some (vi (((i : Nat) : Int))), some (vi (((s : Nat) : Int))), some (vi (((x + 1 : Nat) : Int)))]) (dX2_unfoldProduct.at 44 rfl) rfl (by decide) rfl ?_
      refine sw_goto (tgt := 31) (dX2_unfoldProduct.at 45 rfl) (by decide) ?_
      exact hv

set_option maxHeartbeats 2000000 in
theorem lp_X2_unfoldProduct_31 {G : GG} {j nw nx gn : Nat} {g : Nat → Sh} {c : Nat → Nat → Int} {post : Option AV → AM → Prop} {P : GD} {e v w i s : Nat} (he : e = 21 ∨ e = 35) (hE : EL c e P) (hV : GV P) (hs : s < gR P) (hi : i < 60) {f : Nat → Int} (K : SW G (j + 1) mX2_unfoldProduct 8 [some (vr (9)), some (vr (e)), some (vi (((v : Nat) : Int))), some (vi (((w : Nat) : Int))), some (vi (((i + 1 : Nat) : Int))), none, none] [] (S nw nx g, 78 + gn, wr c 10 (exX spF P s (i + 1) f (gN P))) B0 post) :
    ∀ k x : Nat, x + k = gN P → SW G (j + 1) mX2_unfoldProduct 31 [some (vr (9)), some (vr (e)), some (vi (((v : Nat) : Int))), some (vi (((w : Nat) : Int))), some (vi (((i : Nat) : Int))), some (vi (((s : Nat) : Int))), some (vi (((x : Nat) : Int)))] [] (S nw nx g, 78 + gn, wr c 10 (exX spF P s (i + 1) f x)) B0 post := by
  have h60 := GV_N hV
  have h5 := GV_R hV
  intro k
  induction k with
  | zero =>
    intro x hx
    have e2 : x = gN P := by omega
    subst e2
    refine g_X2_unfoldProduct_31 he hE hV ?_
    refine ⟨?_, ?_, ⟨fun q => ?_, fun q => ⟨?_, ⟨?_, ⟨?_, ?_, ⟨fun q => ?_, fun q => ⟨?_, ?_, ⟨?_, ?_, ?_, ?_⟩⟩⟩⟩⟩⟩⟩⟩
    all_goals first | exact K | omega | (exfalso; omega)
  | succ k ih =>
    intro x hx
    have fE := (hV.2.2.1 x (by omega)).2.2.2.2.2.1
    have fS := hV.2.2.2.1 x s (by omega) hs
    have h := ih (x + 1) (by omega)
    rw [exX] at h
    refine g_X2_unfoldProduct_31 he hE hV ?_
    refine ⟨?_, ?_, ⟨fun q => ?_, fun q => ⟨?_, ⟨?_, ⟨?_, ?_, ⟨fun q => ?_, fun q => ⟨?_, ?_, ⟨?_, ?_, ?_, ?_⟩⟩⟩⟩⟩⟩⟩⟩
    all_goals first | omega | assumption | (exfalso; omega) | (rw [if_pos q] at h; exact h) | (rw [if_neg (by rw [q]; decide)] at h; simpa only [wr_wr, wr_at] using h)

set_option maxHeartbeats 2000000 in
theorem lp_X2_unfoldProduct_8 {G : GG} {j nw nx gn : Nat} {g : Nat → Sh} {c : Nat → Nat → Int} {post : Option AV → AM → Prop} {P : GD} {e v w : Nat} (he : e = 21 ∨ e = 35) (hE : EL c e P) (hV : GV P) (hw : w < gN P) {f : Nat → Int} (K : post none (S nw nx g, 78 + gn, wr c 10 (exF spF P w f (gL P w)))) :
    ∀ k i : Nat, i + k = gL P w → SW G (j + 1) mX2_unfoldProduct 8 [some (vr (9)), some (vr (e)), some (vi (((v : Nat) : Int))), some (vi (((w : Nat) : Int))), some (vi (((i : Nat) : Int))), none, none] [] (S nw nx g, 78 + gn, wr c 10 (exF spF P w f i)) B0 post := by
  have h60 := GV_N hV
  have h13 := (hV.2.2.1 w hw).1
  intro k
  induction k with
  | zero =>
    intro i hi
    have e2 : i = gL P w := by omega
    subst e2
    refine g_X2_unfoldProduct_8 he hE hV ?_
    refine ⟨?_, ⟨?_, ?_, ⟨fun q => ?_, fun q => ⟨?_, ?_, ?_⟩⟩⟩⟩
    all_goals first | exact K | omega | (exfalso; omega)
  | succ k ih =>
    intro i hi
    have h := ih (i + 1) (by omega)
    rw [exF] at h
    have h2 := lp_X2_unfoldProduct_31 (G := G) (j := j) (nw := nw) (nx := nx) (gn := gn) (g := g) (post := post) (v := v) (w := w) he hE hV (gLet_lt hV hw (i := i)) (by omega) h (gN P) 0 (by omega)
    rw [exX] at h2
    refine g_X2_unfoldProduct_8 he hE hV ?_
    refine ⟨?_, ⟨?_, ?_, ⟨fun q => ?_, fun q => ⟨?_, ?_, ?_⟩⟩⟩⟩
    all_goals first | omega | assumption | (exfalso; omega) | exact h2

set_option maxHeartbeats 2000000 in
set_option maxRecDepth 20000 in
theorem g_X2_unfoldProduct_0 {G : GG} {j nw nx gn : Nat} {g : Nat → Sh} {c : Nat → Nat → Int} {post : Option AV → AM → Prop} {e : Nat} {v : Nat} {w : Nat} (he : e = 21 ∨ e = 35) {P : GD} (hE : EL c e P) (hV : GV P)  (hv : (v < 60) ∧ (SW G (j + 1) mX2_unfoldProduct 8 [some (vr (9)), some (vr (e)), some (vi (((v : Nat) : Int))), some (vi (((w : Nat) : Int))), some (vi (0)), none, none] [] (S nw nx g, 78 + gn, (wr c 10 (u1 (z1 (c 10) 960) (v * 16) 1))) B0 post)) :
    SW G (j + 1) mX2_unfoldProduct 0 [some (vr (9)), some (vr (e)), some (vi (((v : Nat) : Int))), some (vi (((w : Nat) : Int))), none, none, none] [] (S nw nx g, 78 + gn, c) B0 post := by
  refine sw_aload_n (dX2_unfoldProduct.at 0 rfl) rfl rfl ?_
  refine sw_iload_n (dX2_unfoldProduct.at 1 rfl) rfl rfl ?_
  refine sw_callV (B' := B0) (As := [vi (((v : Nat) : Int))]) (mc := 0) (ms := 0) (dX2_unfoldProduct.at 2 rfl) lk_X2_15 (S_lt 9 (by decide)) (S_9 nw nx g) rfl rfl (Nat.le_of_ble_eq_true rfl) rfl (Nat.le_refl _) (Nat.le_refl _) ?_
  refine c_X2_start (x := v) (j := j + 0) hv.1 ?_
  replace hv := hv.2
  refine sw_iconst (dX2_unfoldProduct.at 3 rfl) ?_
  refine sw_istore (lo' := [some (vr (9)), some (vr (e)), some (vi (((v : Nat) : Int))), some (vi (((w : Nat) : Int))), some (vi (0)), none, none]) (dX2_unfoldProduct.at 4 rfl) (by decide) rfl ?_
  exact hv

set_option maxHeartbeats 2000000 in
theorem c_X2_unfoldProduct {G : GG} {j nw nx gn : Nat} {g : Nat → Sh} {c : Nat → Nat → Int} {post : Option AV → AM → Prop} {P : GD} {e : Nat} {v : Nat} {w : Nat} (he : e = 21 ∨ e = 35) (hE : EL c e P) (hV : GV P) (p1 : v < gN P) (p2 : w < gN P) (K : ∀ c2 : Nat → Nat → Int, c2 = wr c 10 (c2 10) ∧ ag9 (c2 10) (exF spF P w (st0 v) (gL P w)) → post none (S nw nx g, 78 + gn, c2)) : SM G (j + 2) mX2_unfoldProduct [vr (9), vr (e), vi (((v : Nat) : Int)), vi (((w : Nat) : Int))] (S nw nx g, 78 + gn, c) 0 0 post := by
  refine sm_of wX2_unfoldProduct rfl (Nat.le_of_ble_eq_true rfl) ?_
  refine g_X2_unfoldProduct_0 he hE hV ?_
  have h60 := GV_N hV
  have K2 := K (wr c 10 (exF spF P w (u1 (z1 (c 10) 960) (v * 16) 1) (gL P w))) ⟨by rw [wr_at], by rw [wr_at]; exact exF_g spF_g hV (by assumption) (st0_ag _ _) _⟩
  have h2 := lp_X2_unfoldProduct_8 (G := G) (j := j) (nw := nw) (nx := nx) (gn := gn) (g := g) (post := post) (v := v) (w := w) he hE hV (by assumption) K2 (gL P w) 0 (by omega)
  rw [exF] at h2
  refine ⟨?_, ?_⟩
  all_goals first | omega | assumption | exact h2

set_option maxHeartbeats 2000000 in
set_option maxRecDepth 20000 in
theorem g_X2_number_0 {G : GG} {j nw nx gn : Nat} {g : Nat → Sh} {c : Nat → Nat → Int} {post : Option AV → AM → Prop} {x : Nat} {k : Nat}  (hv : (k < 2147483648) ∧ (((((k : Nat) : Int) < 0) → post (some (vi (0))) (S nw nx g, 78 + gn, c)) ∧ ((¬ (((k : Nat) : Int) < 0)) → (k < 2147483648) ∧ (((16 ≤ k) → post (some (vi (0))) (S nw nx g, 78 + gn, c)) ∧ ((¬ (16 ≤ k)) → ((x * 16) + k < 960) ∧ (post (some (vi (c 10 ((x * 16) + k)))) (S nw nx g, 78 + gn, c))))))) :
    SW G (j + 0) mX2_number 0 [some (vr (9)), some (vi (((x : Nat) : Int))), some (vi (((k : Nat) : Int)))] [] (S nw nx g, 78 + gn, c) B0 post := by
  refine sw_iload_n (dX2_number.at 0 rfl) rfl rfl ?_
  refine sw_if_lt (tgt := 24) (dX2_number.at 1 rfl) (by decide) (nrng hv.1) (fun q => ?_) (fun q => ?_)
  · replace hv := hv.2.1 q
    refine sw_iconst (dX2_number.at 14 rfl) ?_
    exact sw_iret (dX2_number.at 15 rfl) rfl (Nat.le_refl _) (Nat.le_refl _) hv
  · replace hv := hv.2.2 q
    refine sw_iload_n (dX2_number.at 2 rfl) rfl rfl ?_
    refine sw_bipush (dX2_number.at 3 rfl) (by decide) ?_
    refine sw_icmpN_ge k 16 (tgt := 24) (dX2_number.at 4 rfl) (by decide) hv.1 (by decide) (fun q => ?_) (fun q => ?_)
    · replace hv := hv.2.1 q
      refine sw_iconst (dX2_number.at 14 rfl) ?_
      exact sw_iret (dX2_number.at 15 rfl) rfl (Nat.le_refl _) (Nat.le_refl _) hv
    · replace hv := hv.2.2 q
      refine sw_aload_n (dX2_number.at 5 rfl) rfl rfl ?_
      refine sw_getR (dX2_number.at 6 rfl) fp_X2_9 (S_lt 9 (by decide)) (S_9 nw nx g) rfl rfl ?_
      refine sw_iload_n (dX2_number.at 7 rfl) rfl rfl ?_
      refine sw_bipush (dX2_number.at 8 rfl) (by decide) ?_
      refine sw_imul (dX2_number.at 9 rfl) ?_
      refine sw_topI (y := ((x * 16 : Nat) : Int)) (by first | rfl | (congr 1)) ?_
      refine sw_iload_n (dX2_number.at 10 rfl) rfl rfl ?_
      refine sw_iadd (dX2_number.at 11 rfl) ?_
      refine sw_topI (y := (((x * 16) + k : Nat) : Int)) (by first | rfl | (congr 1)) ?_
      refine sw_ialdN ((x * 16) + k) (dX2_number.at 12 rfl) (S_lt 10 (by decide)) (S_10 nw nx g) (by decide) hv.1 rfl ?_
      replace hv := hv.2
      refine sw_goto (tgt := 25) (dX2_number.at 13 rfl) (by decide) ?_
      exact sw_iret (dX2_number.at 15 rfl) rfl (Nat.le_refl _) (Nat.le_refl _) hv

set_option maxHeartbeats 2000000 in
theorem c_X2_number {G : GG} {j nw nx gn : Nat} {g : Nat → Sh} {c : Nat → Nat → Int} {post : Option AV → AM → Prop} {x : Nat} {k : Nat} (p1 : x < 60) (p2 : k < 2147483648) (K : post (some (vi (if k < 16 then c 10 (x * 16 + k) else 0))) (S nw nx g, 78 + gn, c)) : SM G (j + 1) mX2_number [vr (9), vi (((x : Nat) : Int)), vi (((k : Nat) : Int))] (S nw nx g, 78 + gn, c) 0 0 post := by
  refine sm_of wX2_number rfl (Nat.le_of_ble_eq_true rfl) ?_
  refine g_X2_number_0  ?_
  refine ⟨?_, ⟨fun q => ?_, fun q => ⟨?_, ⟨fun q => ?_, fun q => ⟨?_, ?_⟩⟩⟩⟩⟩
  all_goals first | omega | (rw [if_pos (by omega)] at K; exact K) | (rw [if_neg (by omega)] at K; exact K)

def rF (P : GD) (x y k : Nat) : Int := if k < 16 then exF srF P y (st0 0) (gL P y) (x * 16 + k) else 0
def heF (P : GD) (v w z k : Nat) : Int := if k < 16 then exF spF P w (st0 v) (gL P w) (z * 16 + k) else 0
def q_r (P : GD) (x y k : Int) : Int := if ((0 ≤ x ∧ x < (gN P : Int)) ∧ 0 ≤ y ∧ y < (gN P : Int)) ∧ 0 ≤ k then rF P x.toNat y.toNat k.toNat else (-1000000)
set_option maxHeartbeats 2000000 in
set_option maxRecDepth 20000 in
theorem g_X8_r_0n {G : GG} {j nw nx gn : Nat} {g : Nat → Sh} {c : Nat → Nat → Int} {post : Option AV → AM → Prop} {x : Nat} {y : Nat} {k : Nat} {P : GD} (hnw : nw = 21 ∨ nw = 35) (hE : EL c nw P) (hV : GV P)  (hv : (-2147483648 ≤ ((x : Nat) : Int) ∧ ((x : Nat) : Int) < 2147483648) ∧ (-2147483648 ≤ ((y : Nat) : Int) ∧ ((y : Nat) : Int) < 2147483648) ∧ ((((decide ((0 ≤ ((x : Nat) : Int) ∧ ((x : Nat) : Int) < (gN P : Int)) ∧ 0 ≤ ((y : Nat) : Int) ∧ ((y : Nat) : Int) < (gN P : Int))) = false) → post (some (vi ((-1000000)))) (S nw nx g, 78 + gn, c)) ∧ (((decide ((0 ≤ ((x : Nat) : Int) ∧ ((x : Nat) : Int) < (gN P : Int)) ∧ 0 ≤ ((y : Nat) : Int) ∧ ((y : Nat) : Int) < (gN P : Int))) = true) → (k < 2147483648) ∧ (((0 ≤ ((k : Nat) : Int)) → (y < gN P) ∧ (∀ c_1 : Nat → Nat → Int, c_1 = wr c 10 (c_1 10) ∧ ag9 (c_1 10) (exF srF P y (st0 0) (gL P y)) → (x < 60) ∧ (k < 2147483648) ∧ (post (some (vi (if k < 16 then c_1 10 (x * 16 + k) else 0))) (S nw nx g, 78 + gn, c_1)))) ∧ ((¬ (0 ≤ ((k : Nat) : Int))) → post (some (vi ((-1000000)))) (S nw nx g, 78 + gn, c)))))) :
    SW G (j + 2) mX8_r 0 [some (vr (0)), some (vi (((x : Nat) : Int))), some (vi (((y : Nat) : Int))), some (vi (((k : Nat) : Int)))] [] (S nw nx g, 78 + gn, c) B0 post := by
  refine sw_aload_n (dX8_r.at 0 rfl) rfl rfl ?_
  refine sw_iload_n (dX8_r.at 1 rfl) rfl rfl ?_
  refine sw_iload_n (dX8_r.at 2 rfl) rfl rfl ?_
  refine sw_callV (B' := B0) (As := [vi (((x : Nat) : Int)), vi (((y : Nat) : Int))]) (mc := 0) (ms := 0) (dX8_r.at 3 rfl) lk_X8_157 (S_lt 0 (by decide)) (S_0 nw nx g) rfl rfl (Nat.le_of_ble_eq_true rfl) rfl (Nat.le_refl _) (Nat.le_refl _) ?_
  refine c_X8_arePair (x := ((x : Nat) : Int)) (y := ((y : Nat) : Int)) (j := j + 0) hnw hE hV hv.1 hv.2.1 ?_
  replace hv := hv.2.2
  refine sw_if_eq (tgt := 13) (dX8_r.at 4 rfl) (by decide) (bz_rng _) (fun q => ?_) (fun q => ?_)
  · replace hv := hv.1 (bz_0 q)
    refine sw_ldc (z := (-1000000)) (dX8_r.at 7 rfl) kc_X8_196 (by decide) ?_
    exact sw_iret (dX8_r.at 8 rfl) rfl (Nat.le_refl _) (Nat.le_refl _) hv
  · replace hv := hv.2 (bz_n0 q)
    refine sw_iload_n (dX8_r.at 5 rfl) rfl rfl ?_
    refine sw_if_ge (tgt := 16) (dX8_r.at 6 rfl) (by decide) (nrng hv.1) (fun q => ?_) (fun q => ?_)
    · replace hv := hv.2.1 q
      refine sw_aload_n (dX8_r.at 9 rfl) rfl rfl ?_
      refine sw_getR (dX8_r.at 10 rfl) fp_X8_40 (S_lt 0 (by decide)) (S_0 nw nx g) rfl rfl ?_
      refine sw_aload_n (dX8_r.at 11 rfl) rfl rfl ?_
      refine sw_getR (dX8_r.at 12 rfl) fp_X8_65 (S_lt 0 (by decide)) (S_0 nw nx g) rfl rfl ?_
      refine sw_iload_n (dX8_r.at 13 rfl) rfl rfl ?_
      refine sw_callV (B' := B0) (As := [vr (nw), vi (((y : Nat) : Int))]) (mc := 0) (ms := 0) (dX8_r.at 14 rfl) lk_X8_197 (S_lt 9 (by decide)) (S_9 nw nx g) rfl rfl (Nat.le_of_ble_eq_true rfl) rfl (Nat.le_refl _) (Nat.le_refl _) ?_
      refine c_X2_unfoldR (e := nw) (w := y) (j := j + 0) hnw hE hV hv.1 (fun c_1 h_1 => ?_)
      replace hv := hv.2 c_1 h_1
      refine sw_aload_n (dX8_r.at 15 rfl) rfl rfl ?_
      refine sw_getR (dX8_r.at 16 rfl) fp_X8_40 (S_lt 0 (by decide)) (S_0 nw nx g) rfl rfl ?_
      refine sw_iload_n (dX8_r.at 17 rfl) rfl rfl ?_
      refine sw_iload_n (dX8_r.at 18 rfl) rfl rfl ?_
      refine sw_callV (B' := B0) (As := [vi (((x : Nat) : Int)), vi (((k : Nat) : Int))]) (mc := 0) (ms := 0) (dX8_r.at 19 rfl) lk_X8_201 (S_lt 9 (by decide)) (S_9 nw nx g) rfl rfl (Nat.le_of_ble_eq_true rfl) rfl (Nat.le_refl _) (Nat.le_refl _) ?_
      refine c_X2_number (x := x) (k := k) (j := j + 1) hv.1 hv.2.1 ?_
      replace hv := hv.2.2
      exact sw_iret (dX8_r.at 20 rfl) rfl (Nat.le_refl _) (Nat.le_refl _) hv
    · replace hv := hv.2.2 q
      refine sw_ldc (z := (-1000000)) (dX8_r.at 7 rfl) kc_X8_196 (by decide) ?_
      exact sw_iret (dX8_r.at 8 rfl) rfl (Nat.le_refl _) (Nat.le_refl _) hv

set_option maxHeartbeats 2000000 in
set_option maxRecDepth 20000 in
theorem g_X8_r_0 {G : GG} {j nw nx gn : Nat} {g : Nat → Sh} {c : Nat → Nat → Int} {post : Option AV → AM → Prop} {x : Int} {y : Int} {k : Int} {P : GD} (hnw : nw = 21 ∨ nw = 35) (hE : EL c nw P) (hV : GV P)  (hv : (-2147483648 ≤ x ∧ x < 2147483648) ∧ (-2147483648 ≤ y ∧ y < 2147483648) ∧ ((((decide ((0 ≤ x ∧ x < (gN P : Int)) ∧ 0 ≤ y ∧ y < (gN P : Int))) = false) → post (some (vi ((-1000000)))) (S nw nx g, 78 + gn, c)) ∧ (((decide ((0 ≤ x ∧ x < (gN P : Int)) ∧ 0 ≤ y ∧ y < (gN P : Int))) = true) → (-2147483648 ≤ k ∧ k < 2147483648) ∧ (((0 ≤ k) → SW G (j + 2) mX8_r 25 [some (vr (0)), some (vi (x)), some (vi (y)), some (vi (k))] [vi (y), vr (nw), vr (9)] (S nw nx g, 78 + gn, c) B0 post) ∧ ((¬ (0 ≤ k)) → post (some (vi ((-1000000)))) (S nw nx g, 78 + gn, c)))))) :
    SW G (j + 2) mX8_r 0 [some (vr (0)), some (vi (x)), some (vi (y)), some (vi (k))] [] (S nw nx g, 78 + gn, c) B0 post := by
  refine sw_aload_n (dX8_r.at 0 rfl) rfl rfl ?_
  refine sw_iload_n (dX8_r.at 1 rfl) rfl rfl ?_
  refine sw_iload_n (dX8_r.at 2 rfl) rfl rfl ?_
  refine sw_callV (B' := B0) (As := [vi (x), vi (y)]) (mc := 0) (ms := 0) (dX8_r.at 3 rfl) lk_X8_157 (S_lt 0 (by decide)) (S_0 nw nx g) rfl rfl (Nat.le_of_ble_eq_true rfl) rfl (Nat.le_refl _) (Nat.le_refl _) ?_
  refine c_X8_arePair (x := x) (y := y) (j := j + 0) hnw hE hV hv.1 hv.2.1 ?_
  replace hv := hv.2.2
  refine sw_if_eq (tgt := 13) (dX8_r.at 4 rfl) (by decide) (bz_rng _) (fun q => ?_) (fun q => ?_)
  · replace hv := hv.1 (bz_0 q)
    refine sw_ldc (z := (-1000000)) (dX8_r.at 7 rfl) kc_X8_196 (by decide) ?_
    exact sw_iret (dX8_r.at 8 rfl) rfl (Nat.le_refl _) (Nat.le_refl _) hv
  · replace hv := hv.2 (bz_n0 q)
    refine sw_iload_n (dX8_r.at 5 rfl) rfl rfl ?_
    refine sw_if_ge (tgt := 16) (dX8_r.at 6 rfl) (by decide) hv.1 (fun q => ?_) (fun q => ?_)
    · replace hv := hv.2.1 q
      refine sw_aload_n (dX8_r.at 9 rfl) rfl rfl ?_
      refine sw_getR (dX8_r.at 10 rfl) fp_X8_40 (S_lt 0 (by decide)) (S_0 nw nx g) rfl rfl ?_
      refine sw_aload_n (dX8_r.at 11 rfl) rfl rfl ?_
      refine sw_getR (dX8_r.at 12 rfl) fp_X8_65 (S_lt 0 (by decide)) (S_0 nw nx g) rfl rfl ?_
      refine sw_iload_n (dX8_r.at 13 rfl) rfl rfl ?_
      exact hv
    · replace hv := hv.2.2 q
      refine sw_ldc (z := (-1000000)) (dX8_r.at 7 rfl) kc_X8_196 (by decide) ?_
      exact sw_iret (dX8_r.at 8 rfl) rfl (Nat.le_refl _) (Nat.le_refl _) hv

set_option maxHeartbeats 4000000 in
theorem c_X8_r {G : GG} {j nw nx gn : Nat} {g : Nat → Sh} {c : Nat → Nat → Int} {post : Option AV → AM → Prop} {P : GD} {x y k : Int} (hnw : nw = 21 ∨ nw = 35) (hE : EL c nw P) (hV : GV P) (p1 : -2147483648 ≤ x ∧ x < 2147483648) (p2 : -2147483648 ≤ y ∧ y < 2147483648) (p3 : -2147483648 ≤ k ∧ k < 2147483648) (K : ∀ c2 : Nat → Nat → Int, (∀ a, a ≠ 10 → c2 a = c a) → post (some (vi (q_r P x y k))) (S nw nx g, 78 + gn, c2)) : SM G (j + 3) mX8_r [vr (0), vi (x), vi (y), vi (k)] (S nw nx g, 78 + gn, c) 0 0 post := by
  refine sm_of wX8_r rfl (Nat.le_of_ble_eq_true rfl) ?_
  have hN60 := GV_N hV
  have hR5 := GV_R hV
  by_cases hv : ((0 ≤ x ∧ x < (gN P : Int)) ∧ 0 ≤ y ∧ y < (gN P : Int)) ∧ 0 ≤ k
  · obtain ⟨x, rfl⟩ : ∃ n : Nat, x = (n : Int) := ⟨x.toNat, by omega⟩
    obtain ⟨y, rfl⟩ : ∃ n : Nat, y = (n : Int) := ⟨y.toNat, by omega⟩
    obtain ⟨k, rfl⟩ : ∃ n : Nat, k = (n : Int) := ⟨k.toNat, by omega⟩
    have e : q_r P ((x : Nat) : Int) ((y : Nat) : Int) ((k : Nat) : Int) = rF P x y k := by
      rw [q_r, if_pos hv]
      simp only [Int.toNat_natCast]
    rw [e] at K
    refine g_X8_r_0n hnw hE hV ?_
    refine ⟨?_, ?_, ⟨fun q => ?_, fun q => ⟨?_, ⟨fun q => ⟨?_, fun c_1 h_1 => ⟨?_, ?_, ?_⟩⟩, fun q => ?_⟩⟩⟩⟩
    all_goals first | omega | assumption | (exfalso; simp only [decide_eq_true_eq, decide_eq_false_iff_not] at *; omega) | (have h0 : c_1 = wr c 10 (c_1 10) ∧ ag9 (c_1 10) (exF srF P y (st0 0) (gL P y)) := (by assumption); have e9 : (if k < 16 then c_1 10 (x * 16 + k) else 0) = rF P x y k := (by rw [rF]; split <;> first | rfl | exact h0.2 _ (by omega)); rw [e9]; exact K _ (fun a ha => by rw [h0.1]; exact wr_offR ha))
  · have e : q_r P x y k = (-1000000) := by rw [q_r, if_neg hv]
    rw [e] at K
    refine g_X8_r_0 hnw hE hV ?_
    have K := K c (fun _ _ => rfl)
    refine ⟨?_, ?_, ⟨fun q => ?_, fun q => ⟨?_, ⟨fun q => ?_, fun q => ?_⟩⟩⟩⟩
    all_goals first | exact K | omega | assumption | (exfalso; simp only [decide_eq_true_eq, decide_eq_false_iff_not] at *; omega)

def q_hecke (P : GD) (v w z k : Int) : Int := if ((0 ≤ v ∧ v < (gN P : Int)) ∧ 0 ≤ w ∧ w < (gN P : Int)) ∧ (0 ≤ z ∧ z < (gN P : Int)) ∧ 0 ≤ k then heF P v.toNat w.toNat z.toNat k.toNat else (-1000000)
set_option maxHeartbeats 2000000 in
set_option maxRecDepth 20000 in
theorem g_X8_hecke_0n {G : GG} {j nw nx gn : Nat} {g : Nat → Sh} {c : Nat → Nat → Int} {post : Option AV → AM → Prop} {v : Nat} {w : Nat} {z : Nat} {k : Nat} {P : GD} (hnw : nw = 21 ∨ nw = 35) (hE : EL c nw P) (hV : GV P)  (hv : (-2147483648 ≤ ((v : Nat) : Int) ∧ ((v : Nat) : Int) < 2147483648) ∧ (-2147483648 ≤ ((w : Nat) : Int) ∧ ((w : Nat) : Int) < 2147483648) ∧ ((((decide ((0 ≤ ((v : Nat) : Int) ∧ ((v : Nat) : Int) < (gN P : Int)) ∧ 0 ≤ ((w : Nat) : Int) ∧ ((w : Nat) : Int) < (gN P : Int))) = false) → post (some (vi ((-1000000)))) (S nw nx g, 78 + gn, c)) ∧ (((decide ((0 ≤ ((v : Nat) : Int) ∧ ((v : Nat) : Int) < (gN P : Int)) ∧ 0 ≤ ((w : Nat) : Int) ∧ ((w : Nat) : Int) < (gN P : Int))) = true) → (-2147483648 ≤ ((z : Nat) : Int) ∧ ((z : Nat) : Int) < 2147483648) ∧ ((((decide (0 ≤ ((z : Nat) : Int) ∧ ((z : Nat) : Int) < (gN P : Int))) = false) → post (some (vi ((-1000000)))) (S nw nx g, 78 + gn, c)) ∧ (((decide (0 ≤ ((z : Nat) : Int) ∧ ((z : Nat) : Int) < (gN P : Int))) = true) → (k < 2147483648) ∧ (((0 ≤ ((k : Nat) : Int)) → (v < gN P) ∧ (w < gN P) ∧ (∀ c_1 : Nat → Nat → Int, c_1 = wr c 10 (c_1 10) ∧ ag9 (c_1 10) (exF spF P w (st0 v) (gL P w)) → (z < 60) ∧ (k < 2147483648) ∧ (post (some (vi (if k < 16 then c_1 10 (z * 16 + k) else 0))) (S nw nx g, 78 + gn, c_1)))) ∧ ((¬ (0 ≤ ((k : Nat) : Int))) → post (some (vi ((-1000000)))) (S nw nx g, 78 + gn, c)))))))) :
    SW G (j + 2) mX8_hecke 0 [some (vr (0)), some (vi (((v : Nat) : Int))), some (vi (((w : Nat) : Int))), some (vi (((z : Nat) : Int))), some (vi (((k : Nat) : Int)))] [] (S nw nx g, 78 + gn, c) B0 post := by
  refine sw_aload_n (dX8_hecke.at 0 rfl) rfl rfl ?_
  refine sw_iload_n (dX8_hecke.at 1 rfl) rfl rfl ?_
  refine sw_iload_n (dX8_hecke.at 2 rfl) rfl rfl ?_
  refine sw_callV (B' := B0) (As := [vi (((v : Nat) : Int)), vi (((w : Nat) : Int))]) (mc := 0) (ms := 0) (dX8_hecke.at 3 rfl) lk_X8_157 (S_lt 0 (by decide)) (S_0 nw nx g) rfl rfl (Nat.le_of_ble_eq_true rfl) rfl (Nat.le_refl _) (Nat.le_refl _) ?_
  refine c_X8_arePair (x := ((v : Nat) : Int)) (y := ((w : Nat) : Int)) (j := j + 0) hnw hE hV hv.1 hv.2.1 ?_
  replace hv := hv.2.2
  refine sw_if_eq (tgt := 22) (dX8_hecke.at 4 rfl) (by decide) (bz_rng _) (fun q => ?_) (fun q => ?_)
  · replace hv := hv.1 (bz_0 q)
    refine sw_ldc (z := (-1000000)) (dX8_hecke.at 11 rfl) kc_X8_196 (by decide) ?_
    exact sw_iret (dX8_hecke.at 12 rfl) rfl (Nat.le_refl _) (Nat.le_refl _) hv
  · replace hv := hv.2 (bz_n0 q)
    refine sw_aload_n (dX8_hecke.at 5 rfl) rfl rfl ?_
    refine sw_iload_n (dX8_hecke.at 6 rfl) rfl rfl ?_
    refine sw_callV (B' := B0) (As := [vi (((z : Nat) : Int))]) (mc := 0) (ms := 0) (dX8_hecke.at 7 rfl) lk_X8_130 (S_lt 0 (by decide)) (S_0 nw nx g) rfl rfl (Nat.le_of_ble_eq_true rfl) rfl (Nat.le_refl _) (Nat.le_refl _) ?_
    refine c_X8_isElementP (x := ((z : Nat) : Int)) (j := j + 1) hnw hE hV hv.1 ?_
    replace hv := hv.2
    refine sw_if_eq (tgt := 22) (dX8_hecke.at 8 rfl) (by decide) (bz_rng _) (fun q => ?_) (fun q => ?_)
    · replace hv := hv.1 (bz_0 q)
      refine sw_ldc (z := (-1000000)) (dX8_hecke.at 11 rfl) kc_X8_196 (by decide) ?_
      exact sw_iret (dX8_hecke.at 12 rfl) rfl (Nat.le_refl _) (Nat.le_refl _) hv
    · replace hv := hv.2 (bz_n0 q)
      refine sw_iload (dX8_hecke.at 9 rfl) rfl ?_
      refine sw_if_ge (tgt := 25) (dX8_hecke.at 10 rfl) (by decide) (nrng hv.1) (fun q => ?_) (fun q => ?_)
      · replace hv := hv.2.1 q
        refine sw_aload_n (dX8_hecke.at 13 rfl) rfl rfl ?_
        refine sw_getR (dX8_hecke.at 14 rfl) fp_X8_40 (S_lt 0 (by decide)) (S_0 nw nx g) rfl rfl ?_
        refine sw_aload_n (dX8_hecke.at 15 rfl) rfl rfl ?_
        refine sw_getR (dX8_hecke.at 16 rfl) fp_X8_65 (S_lt 0 (by decide)) (S_0 nw nx g) rfl rfl ?_
        refine sw_iload_n (dX8_hecke.at 17 rfl) rfl rfl ?_
        refine sw_iload_n (dX8_hecke.at 18 rfl) rfl rfl ?_
        refine sw_callV (B' := B0) (As := [vr (nw), vi (((v : Nat) : Int)), vi (((w : Nat) : Int))]) (mc := 0) (ms := 0) (dX8_hecke.at 19 rfl) lk_X8_271 (S_lt 9 (by decide)) (S_9 nw nx g) rfl rfl (Nat.le_of_ble_eq_true rfl) rfl (Nat.le_refl _) (Nat.le_refl _) ?_
        refine c_X2_unfoldProduct (e := nw) (v := v) (w := w) (j := j + 0) hnw hE hV hv.1 hv.2.1 (fun c_1 h_1 => ?_)
        replace hv := hv.2.2 c_1 h_1
        refine sw_aload_n (dX8_hecke.at 20 rfl) rfl rfl ?_
        refine sw_getR (dX8_hecke.at 21 rfl) fp_X8_40 (S_lt 0 (by decide)) (S_0 nw nx g) rfl rfl ?_
        refine sw_iload_n (dX8_hecke.at 22 rfl) rfl rfl ?_
        refine sw_iload (dX8_hecke.at 23 rfl) rfl ?_
        refine sw_callV (B' := B0) (As := [vi (((z : Nat) : Int)), vi (((k : Nat) : Int))]) (mc := 0) (ms := 0) (dX8_hecke.at 24 rfl) lk_X8_201 (S_lt 9 (by decide)) (S_9 nw nx g) rfl rfl (Nat.le_of_ble_eq_true rfl) rfl (Nat.le_refl _) (Nat.le_refl _) ?_
        refine c_X2_number (x := z) (k := k) (j := j + 1) hv.1 hv.2.1 ?_
        replace hv := hv.2.2
        exact sw_iret (dX8_hecke.at 25 rfl) rfl (Nat.le_refl _) (Nat.le_refl _) hv
      · replace hv := hv.2.2 q
        refine sw_ldc (z := (-1000000)) (dX8_hecke.at 11 rfl) kc_X8_196 (by decide) ?_
        exact sw_iret (dX8_hecke.at 12 rfl) rfl (Nat.le_refl _) (Nat.le_refl _) hv

set_option maxHeartbeats 2000000 in
set_option maxRecDepth 20000 in
theorem g_X8_hecke_0 {G : GG} {j nw nx gn : Nat} {g : Nat → Sh} {c : Nat → Nat → Int} {post : Option AV → AM → Prop} {v : Int} {w : Int} {z : Int} {k : Int} {P : GD} (hnw : nw = 21 ∨ nw = 35) (hE : EL c nw P) (hV : GV P)  (hv : (-2147483648 ≤ v ∧ v < 2147483648) ∧ (-2147483648 ≤ w ∧ w < 2147483648) ∧ ((((decide ((0 ≤ v ∧ v < (gN P : Int)) ∧ 0 ≤ w ∧ w < (gN P : Int))) = false) → post (some (vi ((-1000000)))) (S nw nx g, 78 + gn, c)) ∧ (((decide ((0 ≤ v ∧ v < (gN P : Int)) ∧ 0 ≤ w ∧ w < (gN P : Int))) = true) → (-2147483648 ≤ z ∧ z < 2147483648) ∧ ((((decide (0 ≤ z ∧ z < (gN P : Int))) = false) → post (some (vi ((-1000000)))) (S nw nx g, 78 + gn, c)) ∧ (((decide (0 ≤ z ∧ z < (gN P : Int))) = true) → (-2147483648 ≤ k ∧ k < 2147483648) ∧ (((0 ≤ k) → SW G (j + 2) mX8_hecke 35 [some (vr (0)), some (vi (v)), some (vi (w)), some (vi (z)), some (vi (k))] [vi (w), vi (v), vr (nw), vr (9)] (S nw nx g, 78 + gn, c) B0 post) ∧ ((¬ (0 ≤ k)) → post (some (vi ((-1000000)))) (S nw nx g, 78 + gn, c)))))))) :
    SW G (j + 2) mX8_hecke 0 [some (vr (0)), some (vi (v)), some (vi (w)), some (vi (z)), some (vi (k))] [] (S nw nx g, 78 + gn, c) B0 post := by
  refine sw_aload_n (dX8_hecke.at 0 rfl) rfl rfl ?_
  refine sw_iload_n (dX8_hecke.at 1 rfl) rfl rfl ?_
  refine sw_iload_n (dX8_hecke.at 2 rfl) rfl rfl ?_
  refine sw_callV (B' := B0) (As := [vi (v), vi (w)]) (mc := 0) (ms := 0) (dX8_hecke.at 3 rfl) lk_X8_157 (S_lt 0 (by decide)) (S_0 nw nx g) rfl rfl (Nat.le_of_ble_eq_true rfl) rfl (Nat.le_refl _) (Nat.le_refl _) ?_
  refine c_X8_arePair (x := v) (y := w) (j := j + 0) hnw hE hV hv.1 hv.2.1 ?_
  replace hv := hv.2.2
  refine sw_if_eq (tgt := 22) (dX8_hecke.at 4 rfl) (by decide) (bz_rng _) (fun q => ?_) (fun q => ?_)
  · replace hv := hv.1 (bz_0 q)
    refine sw_ldc (z := (-1000000)) (dX8_hecke.at 11 rfl) kc_X8_196 (by decide) ?_
    exact sw_iret (dX8_hecke.at 12 rfl) rfl (Nat.le_refl _) (Nat.le_refl _) hv
  · replace hv := hv.2 (bz_n0 q)
    refine sw_aload_n (dX8_hecke.at 5 rfl) rfl rfl ?_
    refine sw_iload_n (dX8_hecke.at 6 rfl) rfl rfl ?_
    refine sw_callV (B' := B0) (As := [vi (z)]) (mc := 0) (ms := 0) (dX8_hecke.at 7 rfl) lk_X8_130 (S_lt 0 (by decide)) (S_0 nw nx g) rfl rfl (Nat.le_of_ble_eq_true rfl) rfl (Nat.le_refl _) (Nat.le_refl _) ?_
    refine c_X8_isElementP (x := z) (j := j + 1) hnw hE hV hv.1 ?_
    replace hv := hv.2
    refine sw_if_eq (tgt := 22) (dX8_hecke.at 8 rfl) (by decide) (bz_rng _) (fun q => ?_) (fun q => ?_)
    · replace hv := hv.1 (bz_0 q)
      refine sw_ldc (z := (-1000000)) (dX8_hecke.at 11 rfl) kc_X8_196 (by decide) ?_
      exact sw_iret (dX8_hecke.at 12 rfl) rfl (Nat.le_refl _) (Nat.le_refl _) hv
    · replace hv := hv.2 (bz_n0 q)
      refine sw_iload (dX8_hecke.at 9 rfl) rfl ?_
      refine sw_if_ge (tgt := 25) (dX8_hecke.at 10 rfl) (by decide) hv.1 (fun q => ?_) (fun q => ?_)
      · replace hv := hv.2.1 q
        refine sw_aload_n (dX8_hecke.at 13 rfl) rfl rfl ?_
        refine sw_getR (dX8_hecke.at 14 rfl) fp_X8_40 (S_lt 0 (by decide)) (S_0 nw nx g) rfl rfl ?_
        refine sw_aload_n (dX8_hecke.at 15 rfl) rfl rfl ?_
        refine sw_getR (dX8_hecke.at 16 rfl) fp_X8_65 (S_lt 0 (by decide)) (S_0 nw nx g) rfl rfl ?_
        refine sw_iload_n (dX8_hecke.at 17 rfl) rfl rfl ?_
        refine sw_iload_n (dX8_hecke.at 18 rfl) rfl rfl ?_
        exact hv
      · replace hv := hv.2.2 q
        refine sw_ldc (z := (-1000000)) (dX8_hecke.at 11 rfl) kc_X8_196 (by decide) ?_
        exact sw_iret (dX8_hecke.at 12 rfl) rfl (Nat.le_refl _) (Nat.le_refl _) hv

set_option maxHeartbeats 4000000 in
theorem c_X8_hecke {G : GG} {j nw nx gn : Nat} {g : Nat → Sh} {c : Nat → Nat → Int} {post : Option AV → AM → Prop} {P : GD} {v w z k : Int} (hnw : nw = 21 ∨ nw = 35) (hE : EL c nw P) (hV : GV P) (p1 : -2147483648 ≤ v ∧ v < 2147483648) (p2 : -2147483648 ≤ w ∧ w < 2147483648) (p3 : -2147483648 ≤ z ∧ z < 2147483648) (p4 : -2147483648 ≤ k ∧ k < 2147483648) (K : ∀ c2 : Nat → Nat → Int, (∀ a, a ≠ 10 → c2 a = c a) → post (some (vi (q_hecke P v w z k))) (S nw nx g, 78 + gn, c2)) : SM G (j + 3) mX8_hecke [vr (0), vi (v), vi (w), vi (z), vi (k)] (S nw nx g, 78 + gn, c) 0 0 post := by
  refine sm_of wX8_hecke rfl (Nat.le_of_ble_eq_true rfl) ?_
  have hN60 := GV_N hV
  have hR5 := GV_R hV
  by_cases hv : ((0 ≤ v ∧ v < (gN P : Int)) ∧ 0 ≤ w ∧ w < (gN P : Int)) ∧ (0 ≤ z ∧ z < (gN P : Int)) ∧ 0 ≤ k
  · obtain ⟨v, rfl⟩ : ∃ n : Nat, v = (n : Int) := ⟨v.toNat, by omega⟩
    obtain ⟨w, rfl⟩ : ∃ n : Nat, w = (n : Int) := ⟨w.toNat, by omega⟩
    obtain ⟨z, rfl⟩ : ∃ n : Nat, z = (n : Int) := ⟨z.toNat, by omega⟩
    obtain ⟨k, rfl⟩ : ∃ n : Nat, k = (n : Int) := ⟨k.toNat, by omega⟩
    have e : q_hecke P ((v : Nat) : Int) ((w : Nat) : Int) ((z : Nat) : Int) ((k : Nat) : Int) = heF P v w z k := by
      rw [q_hecke, if_pos hv]
      simp only [Int.toNat_natCast]
    rw [e] at K
    refine g_X8_hecke_0n hnw hE hV ?_
    refine ⟨?_, ?_, ⟨fun q => ?_, fun q => ⟨?_, ⟨fun q => ?_, fun q => ⟨?_, ⟨fun q => ⟨?_, ?_, fun c_1 h_1 => ⟨?_, ?_, ?_⟩⟩, fun q => ?_⟩⟩⟩⟩⟩⟩
    all_goals first | omega | assumption | (exfalso; simp only [decide_eq_true_eq, decide_eq_false_iff_not] at *; omega) | (have h0 : c_1 = wr c 10 (c_1 10) ∧ ag9 (c_1 10) (exF spF P w (st0 v) (gL P w)) := (by assumption); have e9 : (if k < 16 then c_1 10 (z * 16 + k) else 0) = heF P v w z k := (by rw [heF]; split <;> first | rfl | exact h0.2 _ (by omega)); rw [e9]; exact K _ (fun a ha => by rw [h0.1]; exact wr_offR ha))
  · have e : q_hecke P v w z k = (-1000000) := by rw [q_hecke, if_neg hv]
    rw [e] at K
    refine g_X8_hecke_0 hnw hE hV ?_
    have K := K c (fun _ _ => rfl)
    refine ⟨?_, ?_, ⟨fun q => ?_, fun q => ⟨?_, ⟨fun q => ?_, fun q => ⟨?_, ⟨fun q => ?_, fun q => ?_⟩⟩⟩⟩⟩⟩
    all_goals first | exact K | omega | assumption | (exfalso; simp only [decide_eq_true_eq, decide_eq_false_iff_not] at *; omega)

