/-- the letters of a word from behind -/
def rvF (P : GD) (x : Nat) : Nat → Nat → Nat
  | 0, y => y
  | k + 1, y => rvF P x k (gS P y (gLet P x k))
def msR (P : GD) (x : Nat) : Nat → Nat → Nat → Nat
  | 0, _, a => a
  | k + 1, s, a => msR P x k (s + 1) (a ||| 1 * 2 ^ gX P (gS P x s) (gI P x))
def msA (P : GD) : Nat → Nat → Nat → Nat
  | 0, _, a => a
  | k + 1, x, a => msA P k (x + 1) (msR P x (gR P) 0 a)
def mAll (P : GD) : Nat := msA P (gN P) 0 0
/-- what is reckoned of inverses and mirrors -/
def FB (P : GD) : Prop :=
  (∀ x, x < gN P → rvF P x (gL P x) 0 = gI P x) ∧ (∀ x s, x < gN P → s < gR P → gI P (gS P (gI P x) s) = gX P (s + 1) x) ∧
  (∀ x, x < gN P → (mAll P).testBit x = true → gT P (cntU (fun i => (mAll P).testBit i) x) = x) ∧ cntU (fun i => (mAll P).testBit i) (gN P) = gM P
theorem pow60 {a : Nat} (h : a < 60) : 1 * 2 ^ a < 2 ^ 60 := by rw [Nat.one_mul]; exact Nat.pow_lt_pow_right (by decide) h
theorem msR_lt {P : GD} (hV : GV P) {x : Nat} (hx : x < gN P) : ∀ k s a, s + k = gR P → a < 2 ^ 60 → msR P x k s a < 2 ^ 60 := by
  intro k
  have hN := GV_N hV
  induction k with
  | zero => intro s a _ h; exact h
  | succ k ih =>
    intro s a hs h
    have h1 := hV.2.2.2.1 x s hx (by omega)
    have h2 := (hV.2.2.1 x hx).2.2.2.1
    have h3 := hV.2.2.2.2.1 _ _ h1 h2
    exact ih (s + 1) _ (by omega) (Nat.or_lt_two_pow h (pow60 (by omega)))
theorem msA_lt {P : GD} (hV : GV P) : ∀ k x a, x + k = gN P → a < 2 ^ 60 → msA P k x a < 2 ^ 60 := by
  intro k
  induction k with
  | zero => intro x a _ h; exact h
  | succ k ih =>
    intro x a hx h
    exact ih (x + 1) _ (by omega) (msR_lt hV (by omega) (gR P) 0 a (by omega) h)
theorem mAll_lt {P : GD} (hV : GV P) : mAll P < 2 ^ 60 := msA_lt hV (gN P) 0 0 (by omega) (by decide)

set_option maxHeartbeats 2000000 in
set_option maxRecDepth 20000 in
theorem g_X9_spellsL_2 {G : GG} {j nw nx gn : Nat} {g : Nat → Sh} {c : Nat → Nat → Int} {post : Option AV → AM → Prop} {x0 : Nat} {P : GD} {ln : Nat} {bo : Nat → Nat} {im : Nat → Nat} {bh : Nat → Nat} {ah : Nat → Nat} {lo : Nat → Nat} {fr : Nat → Nat} {la : Nat → Nat} {bk : Nat → Nat} {mo : Nat → Nat} {sp : Nat → Int} {mm : Nat} {tp : Nat} {hb : Bool} {yy : Nat} (hR : c 49 4 = ((gR P : Nat) : Int)) (hL : c 49 5 = ((ln : Nat) : Int)) (hBo : ∀ i, i < 25 → c 51 i = ((bo i : Nat) : Int))  (hv : (yy < 2147483648) ∧ (((((yy : Nat) : Int) ≤ 0) → post none (S nw nx g, 78 + gn, (lm c im bh ah lo fr la bk mo sp mm (gN P) tp hb))) ∧ ((¬ (((yy : Nat) : Int) ≤ 0)) → (yy < 60) ∧ ((1 ≤ lo yy) ∧ ((yy < 60) ∧ (((lo yy) - 1 < 14) ∧ ((yy < 60) ∧ (SW G (j + 0) mX9_spells 2 [some (vr (49)), some (vi (((x0 : Nat) : Int))), some (vi (((fr yy : Nat) : Int)))] [] (S nw nx g, 78 + gn, (lm c im bh ah lo fr la bk mo (u1 sp ((lo yy) - 1) ((la yy : Nat) : Int)) mm (gN P) tp hb)) B0 post)))))))) :
    SW G (j + 0) mX9_spells 2 [some (vr (49)), some (vi (((x0 : Nat) : Int))), some (vi (((yy : Nat) : Int)))] [] (S nw nx g, 78 + gn, (lm c im bh ah lo fr la bk mo sp mm (gN P) tp hb)) B0 post := by
  refine sw_iload_n (dX9_spells.at 2 rfl) rfl rfl ?_
  refine sw_if_le (tgt := 35) (dX9_spells.at 3 rfl) (by decide) (nrng hv.1) (fun q => ?_) (fun q => ?_)
  · replace hv := hv.2.1 q
    exact sw_vret (dX9_spells.at 23 rfl) rfl (Nat.le_refl _) (Nat.le_refl _) hv
  · replace hv := hv.2.2 q
    refine sw_aload_n (dX9_spells.at 4 rfl) rfl rfl ?_
    refine sw_getR (dX9_spells.at 5 rfl) fp_X9_47 (S_lt 49 (by decide)) (S_49 nw nx g) rfl rfl ?_
    refine sw_aload_n (dX9_spells.at 6 rfl) rfl rfl ?_
    refine sw_getR (dX9_spells.at 7 rfl) fp_X9_32 (S_lt 49 (by decide)) (S_49 nw nx g) rfl rfl ?_
    refine sw_iload_n (dX9_spells.at 8 rfl) rfl rfl ?_
    refine sw_ialdN yy (w := ((lo yy : Nat) : Int)) (dX9_spells.at 9 rfl) (S_lt 56 (by decide)) (S_56 nw nx g) (by decide) hv.1 rfl ?_
    replace hv := hv.2
    refine sw_iconst (dX9_spells.at 10 rfl) ?_
    refine sw_isub (dX9_spells.at 11 rfl) ?_
    refine sw_topI (y := (((lo yy) - 1 : Nat) : Int)) (congrArg _ (Int.ofNat_sub hv.1).symm) ?_
    replace hv := hv.2
    refine sw_aload_n (dX9_spells.at 12 rfl) rfl rfl ?_
    refine sw_getR (dX9_spells.at 13 rfl) fp_X9_38 (S_lt 49 (by decide)) (S_49 nw nx g) rfl rfl ?_
    refine sw_iload_n (dX9_spells.at 14 rfl) rfl rfl ?_
    refine sw_ialdN yy (w := ((la yy : Nat) : Int)) (dX9_spells.at 15 rfl) (S_lt 58 (by decide)) (S_58 nw nx g) (by decide) hv.1 rfl ?_
    replace hv := hv.2
    refine sw_iastN ((lo yy) - 1) (dX9_spells.at 16 rfl) (S_lt 61 (by decide)) (S_61 nw nx g) (by decide) hv.1 ?_
    refine SW.cg (M' := (S nw nx g, 78 + gn, (lm c im bh ah lo fr la bk mo (u1 sp ((lo yy) - 1) ((la yy : Nat) : Int)) mm (gN P) tp hb))) (congrArg (fun m => (S nw nx g, 78 + gn, m)) lm_a61) ?_
    replace hv := hv.2
    refine sw_aload_n (dX9_spells.at 17 rfl) rfl rfl ?_
    refine sw_getR (dX9_spells.at 18 rfl) fp_X9_35 (S_lt 49 (by decide)) (S_49 nw nx g) rfl rfl ?_
    refine sw_iload_n (dX9_spells.at 19 rfl) rfl rfl ?_
    refine sw_ialdN yy (w := ((fr yy : Nat) : Int)) (dX9_spells.at 20 rfl) (S_lt 57 (by decide)) (S_57 nw nx g) (by decide) hv.1 rfl ?_
    replace hv := hv.2
    refine sw_istore_n (lo' := [some (vr (49)), some (vi (((x0 : Nat) : Int))), some (vi (((fr yy : Nat) : Int)))]) (dX9_spells.at 21 rfl) rfl (by decide) rfl ?_
    refine sw_goto (tgt := 2) (dX9_spells.at 22 rfl) (by decide) ?_
    exact hv

set_option maxHeartbeats 2000000 in
set_option maxRecDepth 20000 in
theorem g_X9_spellsL_0 {G : GG} {j nw nx gn : Nat} {g : Nat → Sh} {c : Nat → Nat → Int} {post : Option AV → AM → Prop} {x0 : Nat} {P : GD} {ln : Nat} {bo : Nat → Nat} {im : Nat → Nat} {bh : Nat → Nat} {ah : Nat → Nat} {lo : Nat → Nat} {fr : Nat → Nat} {la : Nat → Nat} {bk : Nat → Nat} {mo : Nat → Nat} {sp : Nat → Int} {mm : Nat} {tp : Nat} {hb : Bool} (hR : c 49 4 = ((gR P : Nat) : Int)) (hL : c 49 5 = ((ln : Nat) : Int)) (hBo : ∀ i, i < 25 → c 51 i = ((bo i : Nat) : Int))  (hv : SW G (j + 0) mX9_spells 2 [some (vr (49)), some (vi (((x0 : Nat) : Int))), some (vi (((x0 : Nat) : Int)))] [] (S nw nx g, 78 + gn, (lm c im bh ah lo fr la bk mo sp mm (gN P) tp hb)) B0 post) :
    SW G (j + 0) mX9_spells 0 [some (vr (49)), some (vi (((x0 : Nat) : Int))), none] [] (S nw nx g, 78 + gn, (lm c im bh ah lo fr la bk mo sp mm (gN P) tp hb)) B0 post := by
  refine sw_iload_n (dX9_spells.at 0 rfl) rfl rfl ?_
  refine sw_istore_n (lo' := [some (vr (49)), some (vi (((x0 : Nat) : Int))), some (vi (((x0 : Nat) : Int)))]) (dX9_spells.at 1 rfl) rfl (by decide) rfl ?_
  exact hv

set_option maxHeartbeats 4000000 in
theorem c_X9_spellsL {G : GG} {j nw nx gn : Nat} {g : Nat → Sh} {c : Nat → Nat → Int} {post : Option AV → AM → Prop} {P : GD} {ln : Nat} {bo : Nat → Nat} {im : Nat → Nat} {bh : Nat → Nat} {ah : Nat → Nat} {lo : Nat → Nat} {fr : Nat → Nat} {la : Nat → Nat} {bk : Nat → Nat} {mo : Nat → Nat} {sp : Nat → Int} {mm : Nat} {tp : Nat} {hb : Bool} {x0 : Nat} (hR : c 49 4 = ((gR P : Nat) : Int)) (hL : c 49 5 = ((ln : Nat) : Int)) (hBo : ∀ i, i < 25 → c 51 i = ((bo i : Nat) : Int)) (hlo : ∀ x, x < gN P → lo x = gL P x) (hfr : ∀ x, 0 < x → x < gN P → fr x = gH P x ∧ la x = gA P x) (hbh : ∀ x s, x < gN P → s < gR P → bh (5 * x + s) = gS P x s) (hV : GV P) (hC : GC P) (p1 : x0 < gN P) (K : ∀ sp2 : Nat → Int, (∀ i, i < gL P x0 → sp2 i = ((gLet P x0 i : Nat) : Int)) → post none (S nw nx g, 78 + gn, (lm c im bh ah lo fr la bk mo sp2 mm (gN P) tp hb))) : SM G (j + 1) mX9_spells [vr (49), vi (((x0 : Nat) : Int))] (S nw nx g, 78 + gn, (lm c im bh ah lo fr la bk mo sp mm (gN P) tp hb)) 0 0 post := by
  have hN := GV_N hV
  have hl := (hV.2.2.1 x0 p1).1
  have L : ∀ (t k : Nat) (sp : Nat → Int), k + t = gL P x0 → (∀ i, gL P x0 - k ≤ i → i < gL P x0 → sp i = ((gLet P x0 i : Nat) : Int)) → SW G (j + 0) mX9_spells 2 [some (vr (49)), some (vi (((x0 : Nat) : Int))), some (vi (((gUp P x0 k : Nat) : Int)))] [] (S nw nx g, 78 + gn, (lm c im bh ah lo fr la bk mo sp mm (gN P) tp hb)) B0 post := by
    intro t
    induction t with
    | zero =>
      intro k sp hk h
      have e := (gUp_0 hC hV p1 (k := k) (by omega)).mpr (by omega)
      refine g_X9_spellsL_2 hR hL hBo ?_
      rw [e]
      refine ⟨?_, ⟨fun q => ?_, fun q => ⟨?_, ⟨?_, ⟨?_, ⟨?_, ⟨?_, ?_⟩⟩⟩⟩⟩⟩⟩
      all_goals first | omega | (exfalso; omega) | exact K sp (fun i hi => h i (by omega) hi)
    | succ t ih =>
      intro k sp hk h
      have e1 := gUp_L hC hV p1 k (by omega)
      have e2 : 0 < gUp P x0 k := by
        rcases Nat.eq_zero_or_pos (gUp P x0 k) with e | e
        · rw [e, hC.2.1.1] at e1; omega
        · exact e
      have e3 := gUp_lt hV p1 k
      have e4 := hlo _ e3
      have e5 := hfr _ e2 e3
      have e6 : gUp P x0 (k + 1) = gH P (gUp P x0 k) := rfl
      refine g_X9_spellsL_2 hR hL hBo ?_
      rw [e4, e5.1, e5.2]
      refine ⟨?_, ⟨fun q => ?_, fun q => ⟨?_, ⟨?_, ⟨?_, ⟨?_, ⟨?_, ?_⟩⟩⟩⟩⟩⟩⟩
      all_goals first | omega | (exfalso; omega) | skip
      rw [← e6]
      refine ih (k + 1) _ (by omega) (fun i a b => ?_)
      by_cases e : i = gL P (gUp P x0 k) - 1
      · rw [e, u1, if_pos rfl, gLet]
        congr 2
        congr 1
        omega
      · rw [u1, if_neg e]
        exact h i (by omega) b
  refine sm_of wX9_spells rfl (Nat.le_of_ble_eq_true rfl) ?_
  exact g_X9_spellsL_0 hR hL hBo (L (gL P x0) 0 sp (by omega) (fun i a b => absurd a (by omega)))

set_option maxHeartbeats 2000000 in
set_option maxRecDepth 20000 in
theorem g_X9_productL_0 {G : GG} {j nw nx gn : Nat} {g : Nat → Sh} {c : Nat → Nat → Int} {post : Option AV → AM → Prop} {x0 : Nat} {y0 : Nat} {P : GD} {ln : Nat} {bo : Nat → Nat} {im : Nat → Nat} {bh : Nat → Nat} {ah : Nat → Nat} {lo : Nat → Nat} {fr : Nat → Nat} {la : Nat → Nat} {bk : Nat → Nat} {mo : Nat → Nat} {sp : Nat → Int} {mm : Nat} {tp : Nat} {hb : Bool} (hR : c 49 4 = ((gR P : Nat) : Int)) (hL : c 49 5 = ((ln : Nat) : Int)) (hBo : ∀ i, i < 25 → c 51 i = ((bo i : Nat) : Int)) (hlo : ∀ x, x < gN P → lo x = gL P x) (hfr : ∀ x, 0 < x → x < gN P → fr x = gH P x ∧ la x = gA P x) (hbh : ∀ x s, x < gN P → s < gR P → bh (5 * x + s) = gS P x s) (hV : GV P) (hC : GC P)  (hv : (y0 < gN P) ∧ (∀ (sp_1 : Nat → Int), (∀ i, i < gL P y0 → sp_1 i = ((gLet P y0 i : Nat) : Int)) → SW G (j + 1) mX9_product 10 [some (vr (49)), some (vi (((x0 : Nat) : Int))), some (vi (((y0 : Nat) : Int))), some (vi (((x0 : Nat) : Int))), some (vi (0))] [] (S nw nx g, 78 + gn, (lm c im bh ah lo fr la bk mo sp_1 mm (gN P) tp hb)) B0 post)) :
    SW G (j + 1) mX9_product 0 [some (vr (49)), some (vi (((x0 : Nat) : Int))), some (vi (((y0 : Nat) : Int))), none, none] [] (S nw nx g, 78 + gn, (lm c im bh ah lo fr la bk mo sp mm (gN P) tp hb)) B0 post := by
  refine sw_aload_n (dX9_product.at 0 rfl) rfl rfl ?_
  refine sw_iload_n (dX9_product.at 1 rfl) rfl rfl ?_
  refine sw_callV (B' := B0) (As := [vi (((y0 : Nat) : Int))]) (mc := 0) (ms := 0) (dX9_product.at 2 rfl) lk_X9_234 (S_lt 49 (by decide)) (S_49 nw nx g) rfl rfl (Nat.le_of_ble_eq_true rfl) rfl (Nat.le_refl _) (Nat.le_refl _) ?_
  refine c_X9_spellsL (x0 := y0) (j := j + 0) hR hL hBo hlo hfr hbh hV hC hv.1 (fun sp_1 q2 => ?_) 
  · replace hv := hv.2 sp_1 q2
    refine sw_iload_n (dX9_product.at 3 rfl) rfl rfl ?_
    refine sw_istore_n (lo' := [some (vr (49)), some (vi (((x0 : Nat) : Int))), some (vi (((y0 : Nat) : Int))), some (vi (((x0 : Nat) : Int))), none]) (dX9_product.at 4 rfl) rfl (by decide) rfl ?_
    refine sw_iconst (dX9_product.at 5 rfl) ?_
    refine sw_istore (lo' := [some (vr (49)), some (vi (((x0 : Nat) : Int))), some (vi (((y0 : Nat) : Int))), some (vi (((x0 : Nat) : Int))), some (vi (0))]) (dX9_product.at 6 rfl) (by decide) rfl ?_
    exact hv

set_option maxHeartbeats 2000000 in
set_option maxRecDepth 20000 in
theorem g_X9_productL_10 {G : GG} {j nw nx gn : Nat} {g : Nat → Sh} {c : Nat → Nat → Int} {post : Option AV → AM → Prop} {x0 : Nat} {y0 : Nat} {P : GD} {ln : Nat} {bo : Nat → Nat} {im : Nat → Nat} {bh : Nat → Nat} {ah : Nat → Nat} {lo : Nat → Nat} {fr : Nat → Nat} {la : Nat → Nat} {bk : Nat → Nat} {mo : Nat → Nat} {sp : Nat → Int} {mm : Nat} {tp : Nat} {hb : Bool} {zz : Nat} {kk : Nat} (hR : c 49 4 = ((gR P : Nat) : Int)) (hL : c 49 5 = ((ln : Nat) : Int)) (hBo : ∀ i, i < 25 → c 51 i = ((bo i : Nat) : Int)) (hlo : ∀ x, x < gN P → lo x = gL P x) (hfr : ∀ x, 0 < x → x < gN P → fr x = gH P x ∧ la x = gA P x) (hbh : ∀ x s, x < gN P → s < gR P → bh (5 * x + s) = gS P x s) (hV : GV P) (hC : GC P) (hsp : ∀ i, i < gL P y0 → sp i = ((gLet P y0 i : Nat) : Int))  (hv : (y0 < gN P) ∧ (y0 < 60) ∧ ((kk < 2147483648) ∧ (gL P y0 < 2147483648) ∧ (((gL P y0 ≤ kk) → post (some (vi (((zz : Nat) : Int)))) (S nw nx g, 78 + gn, (lm c im bh ah lo fr la bk mo sp mm (gN P) tp hb))) ∧ ((¬ (gL P y0 ≤ kk)) → (kk < gL P y0) ∧ (kk < 14) ∧ ((zz < gN P) ∧ ((gLet P y0 kk) < gR P) ∧ ((5 * zz) + (gLet P y0 kk) < 300) ∧ (SW G (j + 1) mX9_product 10 [some (vr (49)), some (vi (((x0 : Nat) : Int))), some (vi (((y0 : Nat) : Int))), some (vi (((gS P zz (gLet P y0 kk) : Nat) : Int))), some (vi (((kk + 1 : Nat) : Int)))] [] (S nw nx g, 78 + gn, (lm c im bh ah lo fr la bk mo sp mm (gN P) tp hb)) B0 post)))))) :
    SW G (j + 1) mX9_product 10 [some (vr (49)), some (vi (((x0 : Nat) : Int))), some (vi (((y0 : Nat) : Int))), some (vi (((zz : Nat) : Int))), some (vi (((kk : Nat) : Int)))] [] (S nw nx g, 78 + gn, (lm c im bh ah lo fr la bk mo sp mm (gN P) tp hb)) B0 post := by
  refine sw_iload (dX9_product.at 7 rfl) rfl ?_
  refine sw_aload_n (dX9_product.at 8 rfl) rfl rfl ?_
  refine sw_getR (dX9_product.at 9 rfl) fp_X9_32 (S_lt 49 (by decide)) (S_49 nw nx g) rfl rfl ?_
  refine sw_iload_n (dX9_product.at 10 rfl) rfl rfl ?_
  refine sw_ialdN y0 (w := ((gL P y0 : Nat) : Int)) (dX9_product.at 11 rfl) (S_lt 56 (by decide)) (S_56 nw nx g) (by decide) hv.2.1 (congrArg Int.ofNat (hlo _ hv.1)) ?_
  replace hv := hv.2.2
  refine sw_icmpN_ge kk (gL P y0) (tgt := 44) (dX9_product.at 12 rfl) (by decide) hv.1 hv.2.1 (fun q => ?_) (fun q => ?_)
  · replace hv := hv.2.2.1 q
    refine sw_iload_n (dX9_product.at 27 rfl) rfl rfl ?_
    exact sw_iret (dX9_product.at 28 rfl) rfl (Nat.le_refl _) (Nat.le_refl _) hv
  · replace hv := hv.2.2.2 q
    refine sw_aload_n (dX9_product.at 13 rfl) rfl rfl ?_
    refine sw_getR (dX9_product.at 14 rfl) fp_X9_26 (S_lt 49 (by decide)) (S_49 nw nx g) rfl rfl ?_
    refine sw_iconst (dX9_product.at 15 rfl) ?_
    refine sw_iload_n (dX9_product.at 16 rfl) rfl rfl ?_
    refine sw_imul (dX9_product.at 17 rfl) ?_
    refine sw_topI (y := ((5 * zz : Nat) : Int)) (by first | rfl | (congr 1)) ?_
    refine sw_aload_n (dX9_product.at 18 rfl) rfl rfl ?_
    refine sw_getR (dX9_product.at 19 rfl) fp_X9_47 (S_lt 49 (by decide)) (S_49 nw nx g) rfl rfl ?_
    refine sw_iload (dX9_product.at 20 rfl) rfl ?_
    refine sw_ialdN kk (w := ((gLet P y0 kk : Nat) : Int)) (dX9_product.at 21 rfl) (S_lt 61 (by decide)) (S_61 nw nx g) (by decide) hv.2.1 (hsp _ hv.1) ?_
    replace hv := hv.2.2
    refine sw_iadd (dX9_product.at 22 rfl) ?_
    refine sw_topI (y := (((5 * zz) + (gLet P y0 kk) : Nat) : Int)) (by first | rfl | (congr 1)) ?_
    refine sw_ialdN ((5 * zz) + (gLet P y0 kk)) (w := ((gS P zz (gLet P y0 kk) : Nat) : Int)) (dX9_product.at 23 rfl) (S_lt 54 (by decide)) (S_54 nw nx g) (by decide) hv.2.2.1 (congrArg Int.ofNat (hbh _ _ hv.1 hv.2.1)) ?_
    replace hv := hv.2.2.2
    refine sw_istore_n (lo' := [some (vr (49)), some (vi (((x0 : Nat) : Int))), some (vi (((y0 : Nat) : Int))), some (vi (((gS P zz (gLet P y0 kk) : Nat) : Int))), some (vi (((kk : Nat) : Int)))]) (dX9_product.at 24 rfl) rfl (by decide) rfl ?_
    refine sw_iinc (lo' := [some (vr (49)), some (vi (((x0 : Nat) : Int))), some (vi (((y0 : Nat) : Int))), some (vi (((gS P zz (gLet P y0 kk) : Nat) : Int))), some (vi (((kk + 1 : Nat) : Int)))]) (dX9_product.at 25 rfl) rfl (by decide) rfl ?_
    refine sw_goto (tgt := 10) (dX9_product.at 26 rfl) (by decide) ?_
    exact hv

set_option maxHeartbeats 4000000 in
theorem c_X9_productL {G : GG} {j nw nx gn : Nat} {g : Nat → Sh} {c : Nat → Nat → Int} {post : Option AV → AM → Prop} {P : GD} {ln : Nat} {bo : Nat → Nat} {im : Nat → Nat} {bh : Nat → Nat} {ah : Nat → Nat} {lo : Nat → Nat} {fr : Nat → Nat} {la : Nat → Nat} {bk : Nat → Nat} {mo : Nat → Nat} {sp : Nat → Int} {mm : Nat} {tp : Nat} {hb : Bool} {x0 y0 : Nat} (hR : c 49 4 = ((gR P : Nat) : Int)) (hL : c 49 5 = ((ln : Nat) : Int)) (hBo : ∀ i, i < 25 → c 51 i = ((bo i : Nat) : Int)) (hlo : ∀ x, x < gN P → lo x = gL P x) (hfr : ∀ x, 0 < x → x < gN P → fr x = gH P x ∧ la x = gA P x) (hbh : ∀ x s, x < gN P → s < gR P → bh (5 * x + s) = gS P x s) (hV : GV P) (hC : GC P) (p1 : x0 < gN P) (p2 : y0 < gN P) (K : ∀ sp2 : Nat → Int, post (some (vi ((gX P x0 y0 : Nat) : Int))) (S nw nx g, 78 + gn, (lm c im bh ah lo fr la bk mo sp2 mm (gN P) tp hb))) : SM G (j + 2) mX9_product [vr (49), vi (((x0 : Nat) : Int)), vi (((y0 : Nat) : Int))] (S nw nx g, 78 + gn, (lm c im bh ah lo fr la bk mo sp mm (gN P) tp hb)) 0 0 post := by
  have hN := GV_N hV
  have hR5 := GV_R hV
  have hl := (hV.2.2.1 y0 p2).1
  have L : ∀ (k kk zz : Nat) (sp : Nat → Int) (hsp : ∀ i, i < gL P y0 → sp i = ((gLet P y0 i : Nat) : Int)) , kk + k = gL P y0 → zz < gN P → wlF P y0 k kk zz = gX P x0 y0 → SW G (j + 1) mX9_product 10 [some (vr (49)), some (vi (((x0 : Nat) : Int))), some (vi (((y0 : Nat) : Int))), some (vi (((zz : Nat) : Int))), some (vi (((kk : Nat) : Int)))] [] (S nw nx g, 78 + gn, (lm c im bh ah lo fr la bk mo sp mm (gN P) tp hb)) B0 post := by
    intro k
    induction k with
    | zero =>
      intro kk zz sp hsp hk hz hw
      have hw2 : zz = gX P x0 y0 := hw
      subst hw2
      refine g_X9_productL_10 hR hL hBo hlo hfr hbh hV hC hsp ?_
      refine ⟨?_, ?_, ⟨?_, ?_, ⟨fun q => ?_, fun q => ⟨?_, ?_, ⟨?_, ?_, ?_, ?_⟩⟩⟩⟩⟩
      all_goals first | omega | (exfalso; omega) | exact K sp
    | succ k ih =>
      intro kk zz sp hsp hk hz hw
      have ht : gLet P y0 kk < gR P := (hV.2.2.1 _ (gUp_lt hV p2 _)).2.2.1
      have hs := hV.2.2.2.1 zz _ hz ht
      refine g_X9_productL_10 hR hL hBo hlo hfr hbh hV hC hsp ?_
      refine ⟨?_, ?_, ⟨?_, ?_, ⟨fun q => ?_, fun q => ⟨?_, ?_, ⟨?_, ?_, ?_, ?_⟩⟩⟩⟩⟩
      all_goals first | omega | (exfalso; omega) | exact ih _ _ _ hsp (by omega) hs hw
  refine sm_of wX9_product rfl (Nat.le_of_ble_eq_true rfl) ?_
  refine g_X9_productL_0 hR hL hBo hlo hfr hbh hV hC ?_
  refine ⟨?_, fun sp_1 => fun q => ?_⟩
  all_goals first | omega | exact L (gL P y0) 0 x0 _ ‹_› (by omega) p1 (wlF_all hC hV p1 p2)

