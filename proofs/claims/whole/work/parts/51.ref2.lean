/-- what is known of each group's tables (reckoned for each group elsewhere) -/
def GC (P : GD) : Prop :=
  (hRb P ∧ hLn P) ∧
  (gL P 0 = 0 ∧ ∀ x, 0 < x → x < gN P → gL P (gH P x) + 1 = gL P x ∧ gH P x < x) ∧
  ((∀ x, x < gN P → gX P x 0 = x) ∧ ∀ x y, x < gN P → 0 < y → y < gN P → gX P x y = gS P (gX P x (gH P y)) (gA P y)) ∧
  (∀ x s, x < gN P → s < gR P → (gE P x).testBit s = decide (gL P (gS P x s) < gL P x) ∧ (gF P x).testBit s = decide (gL P (gX P (s + 1) x) < gL P x)) ∧
  (∀ x s, x < gN P → s < gR P → gL P (gS P x s) = gL P x + 1 ∨ gL P (gS P x s) + 1 = gL P x) ∧
  (∀ x s, x < gN P → s < gR P → gL P (gX P (s + 1) x) = gL P x + 1 ∨ gL P (gX P (s + 1) x) + 1 = gL P x)
section GCs
variable {P : GD}
theorem gUp_L (hC : GC P) (hV : GV P) {x : Nat} (hx : x < gN P) : ∀ k, k ≤ gL P x → gL P (gUp P x k) + k = gL P x := by
  intro k
  induction k with
  | zero => intro _; rfl
  | succ k ih =>
    intro h
    have i1 := ih (by omega)
    have h0 : 0 < gUp P x k := by
      rcases Nat.eq_zero_or_pos (gUp P x k) with e | e
      · rw [e, hC.2.1.1] at i1; omega
      · exact e
    have h1 := (hC.2.1.2 _ h0 (gUp_lt hV hx k)).1
    show gL P (gH P (gUp P x k)) + (k + 1) = _
    omega
theorem gL_0 (hC : GC P) {x : Nat} (hx : x < gN P) : gL P x = 0 ↔ x = 0 := by
  constructor
  · intro h
    rcases Nat.eq_zero_or_pos x with e | e
    · exact e
    · have := (hC.2.1.2 _ e hx).1; omega
  · intro h; rw [h]; exact hC.2.1.1
theorem gUp_0 (hC : GC P) (hV : GV P) {x k : Nat} (hx : x < gN P) (hk : k ≤ gL P x) : gUp P x k = 0 ↔ k = gL P x := by
  rw [← gL_0 hC (gUp_lt hV hx k)]
  have := gUp_L hC hV hx k hk
  omega
/-- a word's letters behind z -/
def wlF (P : GD) (y : Nat) : Nat → Nat → Nat → Nat
  | 0, _, z => z
  | k + 1, i, z => wlF P y k (i + 1) (gS P z (gLet P y i))
theorem wlF_X (hC : GC P) (hV : GV P) {x y : Nat} (hx : x < gN P) (hy : y < gN P) : ∀ k i, i + k = gL P y → wlF P y k i (gX P x (gUp P y k)) = gX P x y := by
  intro k
  induction k with
  | zero => intro i _; rfl
  | succ k ih =>
    intro i hi
    have h1 := gUp_L hC hV hy k (by omega)
    have h0 : 0 < gUp P y k := by
      rcases Nat.eq_zero_or_pos (gUp P y k) with e | e
      · rw [e, hC.2.1.1] at h1; omega
      · exact e
    rw [wlF, gLet, show gL P y - 1 - i = k by omega]
    rw [← ih (i + 1) (by omega)]
    congr 1
    show gS P (gX P x (gH P (gUp P y k))) _ = _
    exact (hC.2.2.1.2 x _ hx h0 (gUp_lt hV hy k)).symm
theorem wlF_all (hC : GC P) (hV : GV P) {x y : Nat} (hx : x < gN P) (hy : y < gN P) : wlF P y (gL P y) 0 x = gX P x y := by
  have h := wlF_X hC hV hx hy (gL P y) 0 (by omega)
  rw [(gUp_0 hC hV hy (Nat.le_refl _)).mpr rfl, hC.2.2.1.1 x hx] at h
  exact h
end GCs
abbrev WH (P : GD) (c : Nat → Nat → Int) (x : Nat) : Prop := ∀ i, i < gL P x → c 61 i = ((gLet P x i : Nat) : Int)
set_option maxHeartbeats 2000000 in
set_option maxRecDepth 20000 in
theorem g_X9_spells_2 {G : GG} {j nw nx gn : Nat} {g : Nat → Sh} {c : Nat → Nat → Int} {post : Option AV → AM → Prop} {x : Nat} {P : GD} {y : Nat} {f : Nat → Int} (hM : ML c P) (hV : GV P)  (hv : (y < 2147483648) ∧ (((((y : Nat) : Int) ≤ 0) → post none (S nw nx g, 78 + gn, (wr c 61 f))) ∧ ((¬ (((y : Nat) : Int) ≤ 0)) → (y < gN P) ∧ ((1 ≤ gL P y) ∧ ((y < gN P) ∧ (0 < y) ∧ (((gL P y) - 1 < 14) ∧ ((y < gN P) ∧ (0 < y) ∧ (SW G (j + 0) mX9_spells 2 [some (vr (49)), some (vi (((x : Nat) : Int))), some (vi (((gH P y : Nat) : Int)))] [] (S nw nx g, 78 + gn, (wr c 61 (u1 f ((gL P y) - 1) ((gA P y : Nat) : Int)))) B0 post)))))))) :
    SW G (j + 0) mX9_spells 2 [some (vr (49)), some (vi (((x : Nat) : Int))), some (vi (((y : Nat) : Int)))] [] (S nw nx g, 78 + gn, (wr c 61 f)) B0 post := by
  refine sw_iload_n (dX9_spells.at 2 rfl) rfl rfl ?_
  refine sw_if_le (tgt := 35) (dX9_spells.at 3 rfl) (by decide) (nrng hv.1) (fun q => ?_) (fun q => ?_)
  · replace hv := hv.2.1 q
    exact sw_vret (dX9_spells.at 23 rfl) rfl (Nat.le_refl _) (Nat.le_refl _) hv
  · replace hv := hv.2.2 q
    refine sw_aload_n (dX9_spells.at 4 rfl) rfl rfl ?_
    refine sw_getR (dX9_spells.at 5 rfl) fp_X9_47 (S_lt 49 (by decide)) (S_49 nw nx g) rfl rfl ?_
    refine sw_aload_n (dX9_spells.at 6 rfl) rfl rfl ?_
    refine sw_getR (dX9_spells.at 7 rfl) fp_X9_32 (S_lt 49 (by decide)) (S_49 nw nx g) rfl rfl ?_
    refine sw_iload_n (dX9_spells.at 8 rfl) rfl rfl ?_
    refine sw_ialdN y (w := ((gL P y : Nat) : Int)) (dX9_spells.at 9 rfl) (S_lt 56 (by decide)) (S_56 nw nx g) (by decide) (GV_lt hV hv.1) (ML_L (ML_SC hM (SC_wr SC_rf (a := 61) (f := f) (by decide))) hv.1) ?_
    replace hv := hv.2
    refine sw_iconst (dX9_spells.at 10 rfl) ?_
    refine sw_isub (dX9_spells.at 11 rfl) ?_
    refine sw_topI (y := (((gL P y) - 1 : Nat) : Int)) (congrArg _ (Int.ofNat_sub hv.1).symm) ?_
    replace hv := hv.2
    refine sw_aload_n (dX9_spells.at 12 rfl) rfl rfl ?_
    refine sw_getR (dX9_spells.at 13 rfl) fp_X9_38 (S_lt 49 (by decide)) (S_49 nw nx g) rfl rfl ?_
    refine sw_iload_n (dX9_spells.at 14 rfl) rfl rfl ?_
    refine sw_ialdN y (w := ((gA P y : Nat) : Int)) (dX9_spells.at 15 rfl) (S_lt 58 (by decide)) (S_58 nw nx g) (by decide) (GV_lt hV hv.1) (ML_A (ML_SC hM (SC_wr SC_rf (a := 61) (f := f) (by decide))) hv.1 hv.2.1) ?_
    replace hv := hv.2.2
    refine sw_iastN ((gL P y) - 1) (dX9_spells.at 16 rfl) (S_lt 61 (by decide)) (S_61 nw nx g) (by decide) hv.1 ?_
    refine SW.cg (M' := (S nw nx g, 78 + gn, (wr c 61 (u1 f ((gL P y) - 1) ((gA P y : Nat) : Int))))) (congrArg (fun m => (S nw nx g, 78 + gn, m)) (wr_up c 61 f ((gL P y) - 1) ((gA P y : Nat) : Int))) ?_
    replace hv := hv.2
    refine sw_aload_n (dX9_spells.at 17 rfl) rfl rfl ?_
    refine sw_getR (dX9_spells.at 18 rfl) fp_X9_35 (S_lt 49 (by decide)) (S_49 nw nx g) rfl rfl ?_
    refine sw_iload_n (dX9_spells.at 19 rfl) rfl rfl ?_
    refine sw_ialdN y (w := ((gH P y : Nat) : Int)) (dX9_spells.at 20 rfl) (S_lt 57 (by decide)) (S_57 nw nx g) (by decide) (GV_lt hV hv.1) (ML_H (ML_SC hM (SC_wr SC_rf (a := 61) (f := (u1 f ((gL P y) - 1) ((gA P y : Nat) : Int))) (by decide))) hv.1 hv.2.1) ?_
    replace hv := hv.2.2
    refine sw_istore_n (lo' := [some (vr (49)), some (vi (((x : Nat) : Int))), some (vi (((gH P y : Nat) : Int)))]) (dX9_spells.at 21 rfl) rfl (by decide) rfl ?_
    refine sw_goto (tgt := 2) (dX9_spells.at 22 rfl) (by decide) ?_
    exact hv

set_option maxHeartbeats 2000000 in
theorem lp_X9_spells_2 {G : GG} {j nw nx gn : Nat} {g : Nat → Sh} {c : Nat → Nat → Int} {post : Option AV → AM → Prop} {P : GD} {x : Nat} (hM : ML c P) (hV : GV P) (hC : GC P) (hx : x < gN P) (K : ∀ f : Nat → Int, (∀ i, i < gL P x → f i = ((gLet P x i : Nat) : Int)) → post none (S nw nx g, 78 + gn, wr c 61 f)) : ∀ (t k : Nat) (f : Nat → Int), k + t = gL P x → (∀ i, gL P x - k ≤ i → i < gL P x → f i = ((gLet P x i : Nat) : Int)) → SW G (j + 0) mX9_spells 2 [some (vr (49)), some (vi (((x : Nat) : Int))), some (vi (((gUp P x k : Nat) : Int)))] [] (S nw nx g, 78 + gn, wr c 61 f) B0 post := by
  have h60 := GV_N hV
  have hl := (hV.2.2.1 x hx).1
  intro t
  induction t with
  | zero =>
    intro k f hk hf
    have h0 := (gUp_0 hC hV hx (k := k) (by omega)).mpr (by omega)
    have K2 := K f (fun i hi => hf i (by omega) hi)
    refine g_X9_spells_2 hM hV ?_
    refine ⟨?_, ⟨fun q => ?_, fun q => ⟨?_, ⟨?_, ⟨?_, ?_, ⟨?_, ⟨?_, ?_, ?_⟩⟩⟩⟩⟩⟩⟩
    all_goals first | omega | exact K2 | (exfalso; omega)
  | succ t ih =>
    intro k f hk hf
    have h0 := (gUp_0 hC hV hx (k := k) (by omega))
    have h1 := gUp_lt hV hx k
    have h2 := gUp_L hC hV hx k (by omega)
    have h3 := ih (k + 1) (u1 f (gL P (gUp P x k) - 1) ((gA P (gUp P x k) : Nat) : Int)) (by omega) (fun i h4 h5 => by
      by_cases e : i = gL P (gUp P x k) - 1
      · rw [e, u1_eq, gLet, show gL P x - 1 - (gL P (gUp P x k) - 1) = k by omega]
      · rw [u1_ne e]; exact hf i (by omega) h5)
    refine g_X9_spells_2 hM hV ?_
    refine ⟨?_, ⟨fun q => ?_, fun q => ⟨?_, ⟨?_, ⟨?_, ?_, ⟨?_, ⟨?_, ?_, ?_⟩⟩⟩⟩⟩⟩⟩
    all_goals first | omega | exact h3 | (exfalso; omega)

set_option maxHeartbeats 2000000 in
set_option maxRecDepth 20000 in
theorem g_X9_spells_0 {G : GG} {j nw nx gn : Nat} {g : Nat → Sh} {c : Nat → Nat → Int} {post : Option AV → AM → Prop} {x : Nat}  (hv : SW G (j + 0) mX9_spells 2 [some (vr (49)), some (vi (((x : Nat) : Int))), some (vi (((x : Nat) : Int)))] [] (S nw nx g, 78 + gn, c) B0 post) :
    SW G (j + 0) mX9_spells 0 [some (vr (49)), some (vi (((x : Nat) : Int))), none] [] (S nw nx g, 78 + gn, c) B0 post := by
  refine sw_iload_n (dX9_spells.at 0 rfl) rfl rfl ?_
  refine sw_istore_n (lo' := [some (vr (49)), some (vi (((x : Nat) : Int))), some (vi (((x : Nat) : Int)))]) (dX9_spells.at 1 rfl) rfl (by decide) rfl ?_
  exact hv

set_option maxHeartbeats 2000000 in
theorem c_X9_spells {G : GG} {j nw nx gn : Nat} {g : Nat → Sh} {c : Nat → Nat → Int} {post : Option AV → AM → Prop} {P : GD} {x : Nat} (hM : ML c P) (hV : GV P) (hC : GC P) (p1 : x < gN P) (K : ∀ c2 : Nat → Nat → Int, (SC c c2 ∧ WH P c2 x) → post none (S nw nx g, 78 + gn, c2)) : SM G (j + 1) mX9_spells [vr (49), vi (((x : Nat) : Int))] (S nw nx g, 78 + gn, c) 0 0 post := by
  refine sm_of wX9_spells rfl (Nat.le_of_ble_eq_true rfl) ?_
  refine g_X9_spells_0  ?_
  have h := lp_X9_spells_2 (G := G) (j := j) (nw := nw) (nx := nx) (gn := gn) (g := g) (post := post) hM hV hC p1 (fun f hf => K (wr c 61 f) ⟨SC_wr SC_rf (by decide), fun i hi => by rw [wr_at]; exact hf i hi⟩) (gL P x) 0 (c 61) (by omega) (fun i h1 h2 => by omega)
  rw [wr_self] at h
  exact h

set_option maxHeartbeats 2000000 in
set_option maxRecDepth 20000 in
theorem g_X9_product_10 {G : GG} {j nw nx gn : Nat} {g : Nat → Sh} {c : Nat → Nat → Int} {post : Option AV → AM → Prop} {x : Nat} {y : Nat} {P : GD} {i : Nat} {z : Nat} (hM : ML c P) (hV : GV P) (hl13 : gL P y ≤ 13) (hW : WH P c y)  (hv : (y < gN P) ∧ ((i < 2147483648) ∧ (gL P y < 2147483648) ∧ (((gL P y ≤ i) → post (some (vi (((z : Nat) : Int)))) (S nw nx g, 78 + gn, c)) ∧ ((¬ (gL P y ≤ i)) → (i < gL P y) ∧ ((z < gN P) ∧ ((gLet P y i) < gR P) ∧ (SW G (j + 1) mX9_product 10 [some (vr (49)), some (vi (((x : Nat) : Int))), some (vi (((y : Nat) : Int))), some (vi (((gS P z (gLet P y i) : Nat) : Int))), some (vi (((i + 1 : Nat) : Int)))] [] (S nw nx g, 78 + gn, c) B0 post)))))) :
    SW G (j + 1) mX9_product 10 [some (vr (49)), some (vi (((x : Nat) : Int))), some (vi (((y : Nat) : Int))), some (vi (((z : Nat) : Int))), some (vi (((i : Nat) : Int)))] [] (S nw nx g, 78 + gn, c) B0 post := by
  refine sw_iload (dX9_product.at 7 rfl) rfl ?_
  refine sw_aload_n (dX9_product.at 8 rfl) rfl rfl ?_
  refine sw_getR (dX9_product.at 9 rfl) fp_X9_32 (S_lt 49 (by decide)) (S_49 nw nx g) rfl rfl ?_
  refine sw_iload_n (dX9_product.at 10 rfl) rfl rfl ?_
  refine sw_ialdN y (w := ((gL P y : Nat) : Int)) (dX9_product.at 11 rfl) (S_lt 56 (by decide)) (S_56 nw nx g) (by decide) (GV_lt hV hv.1) (ML_L hM hv.1) ?_
  replace hv := hv.2
  refine sw_icmpN_ge i (gL P y) (tgt := 44) (dX9_product.at 12 rfl) (by decide) hv.1 hv.2.1 (fun q => ?_) (fun q => ?_)
  · replace hv := hv.2.2.1 q
    refine sw_iload_n (dX9_product.at 27 rfl) rfl rfl ?_
    exact sw_iret (dX9_product.at 28 rfl) rfl (Nat.le_refl _) (Nat.le_refl _) hv
  · replace hv := hv.2.2.2 q
    refine sw_aload_n (dX9_product.at 13 rfl) rfl rfl ?_
    refine sw_getR (dX9_product.at 14 rfl) fp_X9_26 (S_lt 49 (by decide)) (S_49 nw nx g) rfl rfl ?_
    refine sw_iconst (dX9_product.at 15 rfl) ?_
    refine sw_iload_n (dX9_product.at 16 rfl) rfl rfl ?_
    refine sw_imul (dX9_product.at 17 rfl) ?_
    refine sw_topI (y := ((5 * z : Nat) : Int)) (by first | rfl | (congr 1)) ?_
    refine sw_aload_n (dX9_product.at 18 rfl) rfl rfl ?_
    refine sw_getR (dX9_product.at 19 rfl) fp_X9_47 (S_lt 49 (by decide)) (S_49 nw nx g) rfl rfl ?_
    refine sw_iload (dX9_product.at 20 rfl) rfl ?_
    refine sw_ialdN i (w := ((gLet P y i : Nat) : Int)) (dX9_product.at 21 rfl) (S_lt 61 (by decide)) (S_61 nw nx g) (by decide) (by have := hl13; omega) (hW _ hv.1) ?_
    replace hv := hv.2
    refine sw_iadd (dX9_product.at 22 rfl) ?_
    refine sw_topI (y := (((5 * z) + (gLet P y i) : Nat) : Int)) (by first | rfl | (congr 1)) ?_
    refine sw_ialdN ((5 * z) + (gLet P y i)) (w := ((gS P z (gLet P y i) : Nat) : Int)) (dX9_product.at 23 rfl) (S_lt 54 (by decide)) (S_54 nw nx g) (by decide) (GV_5 hV hv.1 hv.2.1) (ML_S hM hv.1 hv.2.1) ?_
    replace hv := hv.2.2
    refine sw_istore_n (lo' := [some (vr (49)), some (vi (((x : Nat) : Int))), some (vi (((y : Nat) : Int))), some (vi (((gS P z (gLet P y i) : Nat) : Int))), some (vi (((i : Nat) : Int)))]) (dX9_product.at 24 rfl) rfl (by decide) rfl ?_
    refine sw_iinc (lo' := [some (vr (49)), some (vi (((x : Nat) : Int))), some (vi (((y : Nat) : Int))), some (vi (((gS P z (gLet P y i) : Nat) : Int))), some (vi (((i + 1 : Nat) : Int)))]) (dX9_product.at 25 rfl) rfl (by decide) rfl ?_
    refine sw_goto (tgt := 10) (dX9_product.at 26 rfl) (by decide) ?_
    exact hv

set_option maxHeartbeats 4000000 in
theorem lp_X9_product_10 {G : GG} {j nw nx gn : Nat} {g : Nat → Sh} {c : Nat → Nat → Int} {post : Option AV → AM → Prop} {P : GD} {x : Nat} {y : Nat} (hM : ML c P) (hV : GV P) (hl13 : gL P y ≤ 13) (hW : WH P c y) (hy : y < gN P) : ∀ (k : Nat) (i : Nat) (z : Nat), i + k = gL P y → (z < gN P) → (post (some (vi (((wlF P y k i z : Nat) : Int)))) (S nw nx g, 78 + gn, c)) → SW G (j + 1) mX9_product 10 [some (vr (49)), some (vi (((x : Nat) : Int))), some (vi (((y : Nat) : Int))), some (vi (((z : Nat) : Int))), some (vi (((i : Nat) : Int)))] [] (S nw nx g, 78 + gn, c) B0 post := by
  intro k
  induction k with
  | zero =>
    intro i z hrel hz K
    have h60 := GV_N hV
    have l9 := gLet_lt hV hy (i := i)
    have s9 := hV.2.2.2.1 z _ hz l9
    simp only [wlF] at K
    refine g_X9_product_10 hM hV hl13 hW  ?_
    refine ⟨?_, ⟨?_, ?_, ⟨fun q => ?_, fun q => ⟨?_, ⟨?_, ?_, ?_⟩⟩⟩⟩⟩
    all_goals first | omega | exact K | (exfalso; omega) | (simp only [*, if_true, if_false, ite_true, ite_false, Bool.false_eq_true, and_true, true_and, and_false, false_and, and_self, or_true, true_or, or_false, false_or, Bool.and_true, Bool.and_false, Bool.true_and, Bool.false_and, decide_true, decide_false, eq_self, not_true_eq_false, not_false_eq_true, ne_eq, reduceCtorEq] at K; exact K)
  | succ k ih =>
    intro i z hrel hz K
    have h60 := GV_N hV
    have l9 := gLet_lt hV hy (i := i)
    have s9 := hV.2.2.2.1 z _ hz l9
    simp only [wlF] at K
    refine g_X9_product_10 hM hV hl13 hW  ?_
    refine ⟨?_, ⟨?_, ?_, ⟨fun q => ?_, fun q => ⟨?_, ⟨?_, ?_, ?_⟩⟩⟩⟩⟩
    all_goals first | omega | assumption | (exfalso; omega) | (simp only [*, if_true, if_false, ite_true, ite_false, Bool.false_eq_true, and_true, true_and, and_false, false_and, and_self, or_true, true_or, or_false, false_or, Bool.and_true, Bool.and_false, Bool.true_and, Bool.false_and, decide_true, decide_false, eq_self, not_true_eq_false, not_false_eq_true, ne_eq, reduceCtorEq] at K; first | exact K | exact ih _ _ (by omega) (by first | assumption | omega) K) | exact ih _ _ (by omega) (by first | assumption | omega) K

set_option maxHeartbeats 2000000 in
set_option maxRecDepth 20000 in
theorem g_X9_product_0 {G : GG} {j nw nx gn : Nat} {g : Nat → Sh} {c : Nat → Nat → Int} {post : Option AV → AM → Prop} {x : Nat} {y : Nat} {P : GD} (hM : ML c P) (hV : GV P) (hC : GC P)  (hv : (y < gN P) ∧ (∀ c_1 : Nat → Nat → Int, (SC c c_1 ∧ WH P c_1 y) → SW G (j + 1) mX9_product 10 [some (vr (49)), some (vi (((x : Nat) : Int))), some (vi (((y : Nat) : Int))), some (vi (((x : Nat) : Int))), some (vi (0))] [] (S nw nx g, 78 + gn, c_1) B0 post)) :
    SW G (j + 1) mX9_product 0 [some (vr (49)), some (vi (((x : Nat) : Int))), some (vi (((y : Nat) : Int))), none, none] [] (S nw nx g, 78 + gn, c) B0 post := by
  refine sw_aload_n (dX9_product.at 0 rfl) rfl rfl ?_
  refine sw_iload_n (dX9_product.at 1 rfl) rfl rfl ?_
  refine sw_callV (B' := B0) (As := [vi (((y : Nat) : Int))]) (mc := 0) (ms := 0) (dX9_product.at 2 rfl) lk_X9_234 (S_lt 49 (by decide)) (S_49 nw nx g) rfl rfl (Nat.le_of_ble_eq_true rfl) rfl (Nat.le_refl _) (Nat.le_refl _) ?_
  refine c_X9_spells (x := y) (j := j + 0) hM hV hC hv.1 (fun c_1 h_1 => ?_)
  replace hv := hv.2 c_1 h_1
  refine sw_iload_n (dX9_product.at 3 rfl) rfl rfl ?_
  refine sw_istore_n (lo' := [some (vr (49)), some (vi (((x : Nat) : Int))), some (vi (((y : Nat) : Int))), some (vi (((x : Nat) : Int))), none]) (dX9_product.at 4 rfl) rfl (by decide) rfl ?_
  refine sw_iconst (dX9_product.at 5 rfl) ?_
  refine sw_istore (lo' := [some (vr (49)), some (vi (((x : Nat) : Int))), some (vi (((y : Nat) : Int))), some (vi (((x : Nat) : Int))), some (vi (0))]) (dX9_product.at 6 rfl) (by decide) rfl ?_
  exact hv

set_option maxHeartbeats 2000000 in
theorem c_X9_product {G : GG} {j nw nx gn : Nat} {g : Nat → Sh} {c : Nat → Nat → Int} {post : Option AV → AM → Prop} {P : GD} {x : Nat} {y : Nat} (hM : ML c P) (hV : GV P) (hC : GC P) (p1 : x < gN P) (p2 : y < gN P) (K : ∀ c2 : Nat → Nat → Int, SC c c2 → post (some (vi (((gX P x y : Nat) : Int)))) (S nw nx g, 78 + gn, c2)) : SM G (j + 2) mX9_product [vr (49), vi (((x : Nat) : Int)), vi (((y : Nat) : Int))] (S nw nx g, 78 + gn, c) 0 0 post := by
  refine sm_of wX9_product rfl (Nat.le_of_ble_eq_true rfl) ?_
  refine g_X9_product_0 hM hV hC ?_
  have hl := (hV.2.2.1 y p2).1
  refine ⟨?_, fun c_1 h_1 => ?_⟩
  all_goals first | assumption | omega | exact lp_X9_product_10 (ML_SC hM h_1.1) hV hl h_1.2 p2 (gL P y) 0 x (by omega) p1 (by rw [wlF_all hC hV p1 p2]; exact K _ h_1.1)

def dsc (P : GD) (x sd : Nat) : Nat := if sd = 0 then gF P x else gE P x
set_option maxHeartbeats 2000000 in
set_option maxRecDepth 20000 in
theorem g_X9_isShorter_0 {G : GG} {j nw nx gn : Nat} {g : Nat → Sh} {c : Nat → Nat → Int} {post : Option AV → AM → Prop} {x : Nat} {s : Nat} {sd : Nat} {P : GD} (hM : ML c P) (hV : GV P) (hC : GC P)  (hv : (sd < 2147483648) ∧ (((sd ≠ 0) → (x < gN P) ∧ (s < gR P) ∧ ((gS P x s < gN P) ∧ ((x < gN P) ∧ ((gL P (gS P x s) < 2147483648) ∧ (gL P x < 2147483648) ∧ (((gL P x ≤ gL P (gS P x s)) → post (some (vi (0))) (S nw nx g, 78 + gn, c)) ∧ ((¬ (gL P x ≤ gL P (gS P x s))) → post (some (vi (1))) (S nw nx g, 78 + gn, c))))))) ∧ ((sd = 0) → (x < gN P) ∧ (s < gR P) ∧ ((gX P (s + 1) x < gN P) ∧ ((x < gN P) ∧ ((gL P (gX P (s + 1) x) < 2147483648) ∧ (gL P x < 2147483648) ∧ (((gL P x ≤ gL P (gX P (s + 1) x)) → post (some (vi (0))) (S nw nx g, 78 + gn, c)) ∧ ((¬ (gL P x ≤ gL P (gX P (s + 1) x))) → post (some (vi (1))) (S nw nx g, 78 + gn, c))))))))) :
    SW G (j + 0) mX9_isShorter 0 [some (vr (49)), some (vi (((x : Nat) : Int))), some (vi (((s : Nat) : Int))), some (vi (((sd : Nat) : Int))), none] [] (S nw nx g, 78 + gn, c) B0 post := by
  refine sw_iload_n (dX9_isShorter.at 0 rfl) rfl rfl ?_
  refine sw_ifN_ne sd (tgt := 17) (dX9_isShorter.at 1 rfl) (by decide) hv.1 (fun q => ?_) (fun q => ?_)
  · replace hv := hv.2.1 q
    refine sw_aload_n (dX9_isShorter.at 11 rfl) rfl rfl ?_
    refine sw_getR (dX9_isShorter.at 12 rfl) fp_X9_26 (S_lt 49 (by decide)) (S_49 nw nx g) rfl rfl ?_
    refine sw_iconst (dX9_isShorter.at 13 rfl) ?_
    refine sw_iload_n (dX9_isShorter.at 14 rfl) rfl rfl ?_
    refine sw_imul (dX9_isShorter.at 15 rfl) ?_
    refine sw_topI (y := ((5 * x : Nat) : Int)) (by first | rfl | (congr 1)) ?_
    refine sw_iload_n (dX9_isShorter.at 16 rfl) rfl rfl ?_
    refine sw_iadd (dX9_isShorter.at 17 rfl) ?_
    refine sw_topI (y := (((5 * x) + s : Nat) : Int)) (by first | rfl | (congr 1)) ?_
    refine sw_ialdN ((5 * x) + s) (w := ((gS P x s : Nat) : Int)) (dX9_isShorter.at 18 rfl) (S_lt 54 (by decide)) (S_54 nw nx g) (by decide) (GV_5 hV hv.1 hv.2.1) (ML_S hM hv.1 hv.2.1) ?_
    replace hv := hv.2.2
    refine sw_istore (lo' := [some (vr (49)), some (vi (((x : Nat) : Int))), some (vi (((s : Nat) : Int))), some (vi (((sd : Nat) : Int))), some (vi (((gS P x s : Nat) : Int)))]) (dX9_isShorter.at 19 rfl) (by decide) rfl ?_
    refine sw_aload_n (dX9_isShorter.at 20 rfl) rfl rfl ?_
    refine sw_getR (dX9_isShorter.at 21 rfl) fp_X9_32 (S_lt 49 (by decide)) (S_49 nw nx g) rfl rfl ?_
    refine sw_iload (dX9_isShorter.at 22 rfl) rfl ?_
    refine sw_ialdN (gS P x s) (w := ((gL P (gS P x s) : Nat) : Int)) (dX9_isShorter.at 23 rfl) (S_lt 56 (by decide)) (S_56 nw nx g) (by decide) (GV_lt hV hv.1) (ML_L hM hv.1) ?_
    replace hv := hv.2
    refine sw_aload_n (dX9_isShorter.at 24 rfl) rfl rfl ?_
    refine sw_getR (dX9_isShorter.at 25 rfl) fp_X9_32 (S_lt 49 (by decide)) (S_49 nw nx g) rfl rfl ?_
    refine sw_iload_n (dX9_isShorter.at 26 rfl) rfl rfl ?_
    refine sw_ialdN x (w := ((gL P x : Nat) : Int)) (dX9_isShorter.at 27 rfl) (S_lt 56 (by decide)) (S_56 nw nx g) (by decide) (GV_lt hV hv.1) (ML_L hM hv.1) ?_
    replace hv := hv.2
    refine sw_icmpN_ge (gL P (gS P x s)) (gL P x) (tgt := 49) (dX9_isShorter.at 28 rfl) (by decide) hv.1 hv.2.1 (fun q => ?_) (fun q => ?_)
    · replace hv := hv.2.2.1 q
      refine sw_iconst (dX9_isShorter.at 31 rfl) ?_
      exact sw_zret (dX9_isShorter.at 32 rfl) rfl (by decide) (Nat.le_refl _) (Nat.le_refl _) hv
    · replace hv := hv.2.2.2 q
      refine sw_iconst (dX9_isShorter.at 29 rfl) ?_
      refine sw_goto (tgt := 50) (dX9_isShorter.at 30 rfl) (by decide) ?_
      exact sw_zret (dX9_isShorter.at 32 rfl) rfl (by decide) (Nat.le_refl _) (Nat.le_refl _) hv
  · replace hv := hv.2.2 q
    refine sw_aload_n (dX9_isShorter.at 2 rfl) rfl rfl ?_
    refine sw_getR (dX9_isShorter.at 3 rfl) fp_X9_29 (S_lt 49 (by decide)) (S_49 nw nx g) rfl rfl ?_
    refine sw_iconst (dX9_isShorter.at 4 rfl) ?_
    refine sw_iload_n (dX9_isShorter.at 5 rfl) rfl rfl ?_
    refine sw_imul (dX9_isShorter.at 6 rfl) ?_
    refine sw_topI (y := ((5 * x : Nat) : Int)) (by first | rfl | (congr 1)) ?_
    refine sw_iload_n (dX9_isShorter.at 7 rfl) rfl rfl ?_
    refine sw_iadd (dX9_isShorter.at 8 rfl) ?_
    refine sw_topI (y := (((5 * x) + s : Nat) : Int)) (by first | rfl | (congr 1)) ?_
    refine sw_ialdN ((5 * x) + s) (w := ((gX P (s + 1) x : Nat) : Int)) (dX9_isShorter.at 9 rfl) (S_lt 55 (by decide)) (S_55 nw nx g) (by decide) (GV_5 hV hv.1 hv.2.1) (ML_Ah hM hv.1 hv.2.1) ?_
    replace hv := hv.2.2
    refine sw_goto (tgt := 27) (dX9_isShorter.at 10 rfl) (by decide) ?_
    refine sw_istore (lo' := [some (vr (49)), some (vi (((x : Nat) : Int))), some (vi (((s : Nat) : Int))), some (vi (((sd : Nat) : Int))), some (vi (((gX P (s + 1) x : Nat) : Int)))]) (dX9_isShorter.at 19 rfl) (by decide) rfl ?_
    refine sw_aload_n (dX9_isShorter.at 20 rfl) rfl rfl ?_
    refine sw_getR (dX9_isShorter.at 21 rfl) fp_X9_32 (S_lt 49 (by decide)) (S_49 nw nx g) rfl rfl ?_
    refine sw_iload (dX9_isShorter.at 22 rfl) rfl ?_
    refine sw_ialdN (gX P (s + 1) x) (w := ((gL P (gX P (s + 1) x) : Nat) : Int)) (dX9_isShorter.at 23 rfl) (S_lt 56 (by decide)) (S_56 nw nx g) (by decide) (GV_lt hV hv.1) (ML_L hM hv.1) ?_
    replace hv := hv.2
    refine sw_aload_n (dX9_isShorter.at 24 rfl) rfl rfl ?_
    refine sw_getR (dX9_isShorter.at 25 rfl) fp_X9_32 (S_lt 49 (by decide)) (S_49 nw nx g) rfl rfl ?_
    refine sw_iload_n (dX9_isShorter.at 26 rfl) rfl rfl ?_
    refine sw_ialdN x (w := ((gL P x : Nat) : Int)) (dX9_isShorter.at 27 rfl) (S_lt 56 (by decide)) (S_56 nw nx g) (by decide) (GV_lt hV hv.1) (ML_L hM hv.1) ?_
    replace hv := hv.2
    refine sw_icmpN_ge (gL P (gX P (s + 1) x)) (gL P x) (tgt := 49) (dX9_isShorter.at 28 rfl) (by decide) hv.1 hv.2.1 (fun q => ?_) (fun q => ?_)
    · replace hv := hv.2.2.1 q
      refine sw_iconst (dX9_isShorter.at 31 rfl) ?_
      exact sw_zret (dX9_isShorter.at 32 rfl) rfl (by decide) (Nat.le_refl _) (Nat.le_refl _) hv
    · replace hv := hv.2.2.2 q
      refine sw_iconst (dX9_isShorter.at 29 rfl) ?_
      refine sw_goto (tgt := 50) (dX9_isShorter.at 30 rfl) (by decide) ?_
      exact sw_zret (dX9_isShorter.at 32 rfl) rfl (by decide) (Nat.le_refl _) (Nat.le_refl _) hv

set_option maxHeartbeats 2000000 in
theorem c_X9_isShorter {G : GG} {j nw nx gn : Nat} {g : Nat → Sh} {c : Nat → Nat → Int} {post : Option AV → AM → Prop} {P : GD} {x : Nat} {s : Nat} {sd : Nat} (hM : ML c P) (hV : GV P) (hC : GC P) (p1 : x < gN P) (p2 : s < gR P) (p3 : sd < 2) (K : post (some (vi (bz ((dsc P x sd).testBit s)))) (S nw nx g, 78 + gn, c)) : SM G (j + 1) mX9_isShorter [vr (49), vi (((x : Nat) : Int)), vi (((s : Nat) : Int)), vi (((sd : Nat) : Int))] (S nw nx g, 78 + gn, c) 0 0 post := by
  refine sm_of wX9_isShorter rfl (Nat.le_of_ble_eq_true rfl) ?_
  refine g_X9_isShorter_0 hM hV hC ?_
  have h1 := hC.2.2.2.1 x s p1 p2
  have h2 := hC.1.2 s p2
  have h3 := hV.2.2.2.1 x s p1 p2
  have h4 := hV.2.2.2.2.1 _ _ h2 p1
  have l1 := (hV.2.2.1 _ h3).1
  have l2 := (hV.2.2.1 _ h4).1
  have l3 := (hV.2.2.1 _ p1).1
  by_cases e : sd = 0
  · rw [dsc, if_pos e, h1.2] at K
    refine ⟨?_, ⟨fun q => ⟨?_, ?_, ⟨?_, ⟨?_, ⟨?_, ?_, ⟨fun q => ?_, fun q => ?_⟩⟩⟩⟩⟩, fun q => ⟨?_, ?_, ⟨?_, ⟨?_, ⟨?_, ?_, ⟨fun q => ?_, fun q => ?_⟩⟩⟩⟩⟩⟩⟩
    all_goals first | assumption | omega | (exfalso; omega) | (rw [decide_eq_true (by omega)] at K; exact K) | (rw [decide_eq_false (by omega)] at K; exact K)
  · rw [dsc, if_neg e, h1.1] at K
    refine ⟨?_, ⟨fun q => ⟨?_, ?_, ⟨?_, ⟨?_, ⟨?_, ?_, ⟨fun q => ?_, fun q => ?_⟩⟩⟩⟩⟩, fun q => ⟨?_, ?_, ⟨?_, ⟨?_, ⟨?_, ?_, ⟨fun q => ?_, fun q => ?_⟩⟩⟩⟩⟩⟩⟩
    all_goals first | assumption | omega | (exfalso; omega) | (rw [decide_eq_true (by omega)] at K; exact K) | (rw [decide_eq_false (by omega)] at K; exact K)

def sbF (p : Nat) : Nat → Nat → Nat → Nat
  | 0, _, a => a
  | k + 1, s, a => sbF p k (s + 1) (a ||| (if p.testBit s then 1 * 2 ^ s else 0))
theorem sbF_bit {p : Nat} : ∀ k s a t, (sbF p k s a).testBit t = (a.testBit t || (decide (s ≤ t ∧ t < s + k) && p.testBit t)) := by
  intro k
  induction k with
  | zero => intro s a t; have : ¬ (s ≤ t ∧ t < s + 0) := by omega
            rw [decide_eq_false this]; simp [sbF]
  | succ k ih =>
    intro s a t
    rw [sbF, ih, Nat.testBit_or]
    by_cases e : t = s
    · subst e
      have h1 : ¬ (t + 1 ≤ t ∧ t < t + 1 + k) := by omega
      have h2 : t ≤ t ∧ t < t + (k + 1) := by omega
      rw [decide_eq_false h1, decide_eq_true h2]
      by_cases hp : p.testBit t
      · simp [hp, Nat.testBit_two_pow_self]
      · simp [hp]
    · have h1 : (s + 1 ≤ t ∧ t < s + 1 + k) ↔ (s ≤ t ∧ t < s + (k + 1)) := by omega
      have h2 : (if p.testBit s then 1 * 2 ^ s else 0).testBit t = false := by
        split
        · rw [Nat.one_mul]; exact Nat.testBit_two_pow_of_ne (Ne.symm e)
        · simp
      rw [h2, Bool.or_false]
      simp only [h1]
theorem sbF_all {p r : Nat} (hp : p < 2 ^ r) : sbF p r 0 0 = p := by
  apply Nat.eq_of_testBit_eq
  intro t
  rw [sbF_bit]
  by_cases h : t < r
  · simp [h]
  · rw [Nat.testBit_lt_two_pow (Nat.lt_of_lt_of_le hp (Nat.pow_le_pow_right (by decide) (by omega)))]; simp
theorem dsc_lt {P : GD} (hC : GC P) {x sd : Nat} (hx : x < gN P) : dsc P x sd < 2 ^ gR P := by
  rw [dsc]; split
  · exact (hC.1.1 x hx).2
  · exact (hC.1.1 x hx).1
set_option maxHeartbeats 2000000 in
set_option maxRecDepth 20000 in
theorem g_X9_shorterBits_5 {G : GG} {j nw nx gn : Nat} {g : Nat → Sh} {c : Nat → Nat → Int} {post : Option AV → AM → Prop} {x : Nat} {sd : Nat} {P : GD} {s : Nat} {a : Nat} (hM : ML c P) (hV : GV P) (hC : GC P)  (hv : (s < 2147483648) ∧ (gR P < 2147483648) ∧ (((gR P ≤ s) → post (some (vi (((a : Nat) : Int)))) (S nw nx g, 78 + gn, c)) ∧ ((¬ (gR P ≤ s)) → (x < gN P) ∧ (s < gR P) ∧ (sd < 2) ∧ (((((dsc P x sd).testBit s) = false) → SW G (j + 1) mX9_shorterBits 5 [some (vr (49)), some (vi (((x : Nat) : Int))), some (vi (((sd : Nat) : Int))), some (vi (((a ||| 0 : Nat) : Int))), some (vi (((s + 1 : Nat) : Int)))] [] (S nw nx g, 78 + gn, c) B0 post) ∧ ((((dsc P x sd).testBit s) = true) → (s < 32) ∧ (SW G (j + 1) mX9_shorterBits 5 [some (vr (49)), some (vi (((x : Nat) : Int))), some (vi (((sd : Nat) : Int))), some (vi (((a ||| (1 * 2 ^ s) : Nat) : Int))), some (vi (((s + 1 : Nat) : Int)))] [] (S nw nx g, 78 + gn, c) B0 post)))))) :
    SW G (j + 1) mX9_shorterBits 5 [some (vr (49)), some (vi (((x : Nat) : Int))), some (vi (((sd : Nat) : Int))), some (vi (((a : Nat) : Int))), some (vi (((s : Nat) : Int)))] [] (S nw nx g, 78 + gn, c) B0 post := by
  refine sw_iload (dX9_shorterBits.at 4 rfl) rfl ?_
  refine sw_aload_n (dX9_shorterBits.at 5 rfl) rfl rfl ?_
  refine sw_getIE (w := ((gR P : Nat) : Int)) (dX9_shorterBits.at 6 rfl) fp_X9_159 (S_lt 49 (by decide)) (S_49 nw nx g) rfl hM.1.1 ?_
  refine sw_icmpN_ge s (gR P) (tgt := 42) (dX9_shorterBits.at 7 rfl) (by decide) hv.1 hv.2.1 (fun q => ?_) (fun q => ?_)
  · replace hv := hv.2.2.1 q
    refine sw_iload_n (dX9_shorterBits.at 24 rfl) rfl rfl ?_
    exact sw_iret (dX9_shorterBits.at 25 rfl) rfl (Nat.le_refl _) (Nat.le_refl _) hv
  · replace hv := hv.2.2.2 q
    refine sw_iload_n (dX9_shorterBits.at 8 rfl) rfl rfl ?_
    refine sw_aload_n (dX9_shorterBits.at 9 rfl) rfl rfl ?_
    refine sw_iload_n (dX9_shorterBits.at 10 rfl) rfl rfl ?_
    refine sw_iload (dX9_shorterBits.at 11 rfl) rfl ?_
    refine sw_iload_n (dX9_shorterBits.at 12 rfl) rfl rfl ?_
    refine sw_callV (B' := B0) (As := [vi (((x : Nat) : Int)), vi (((s : Nat) : Int)), vi (((sd : Nat) : Int))]) (mc := 0) (ms := 0) (dX9_shorterBits.at 13 rfl) lk_X9_244 (S_lt 49 (by decide)) (S_49 nw nx g) rfl rfl (Nat.le_of_ble_eq_true rfl) rfl (Nat.le_refl _) (Nat.le_refl _) ?_
    refine c_X9_isShorter (x := x) (s := s) (sd := sd) (j := j + 0) hM hV hC hv.1 hv.2.1 hv.2.2.1 ?_
    replace hv := hv.2.2.2
    refine sw_if_eq (tgt := 33) (dX9_shorterBits.at 14 rfl) (by decide) (bz_rng _) (fun q => ?_) (fun q => ?_)
    · replace hv := hv.1 (bz_0 q)
      refine sw_iconst (dX9_shorterBits.at 19 rfl) ?_
      refine sw_orN a 0 (dX9_shorterBits.at 20 rfl) ?_
      refine sw_istore_n (lo' := [some (vr (49)), some (vi (((x : Nat) : Int))), some (vi (((sd : Nat) : Int))), some (vi (((a ||| 0 : Nat) : Int))), some (vi (((s : Nat) : Int)))]) (dX9_shorterBits.at 21 rfl) rfl (by decide) rfl ?_
      refine sw_iinc (lo' := [some (vr (49)), some (vi (((x : Nat) : Int))), some (vi (((sd : Nat) : Int))), some (vi (((a ||| 0 : Nat) : Int))), some (vi (((s + 1 : Nat) : Int)))]) (dX9_shorterBits.at 22 rfl) rfl (by decide) rfl ?_
      refine sw_goto (tgt := 5) (dX9_shorterBits.at 23 rfl) (by decide) ?_
      exact hv
    · replace hv := hv.2 (bz_n0 q)
      refine sw_iconst (dX9_shorterBits.at 15 rfl) ?_
      refine sw_iload (dX9_shorterBits.at 16 rfl) rfl ?_
      refine sw_ishlN 1 s (dX9_shorterBits.at 17 rfl) hv.1 ?_
      replace hv := hv.2
      refine sw_goto (tgt := 34) (dX9_shorterBits.at 18 rfl) (by decide) ?_
      refine sw_orN a (1 * 2 ^ s) (dX9_shorterBits.at 20 rfl) ?_
      refine sw_istore_n (lo' := [some (vr (49)), some (vi (((x : Nat) : Int))), some (vi (((sd : Nat) : Int))), some (vi (((a ||| (1 * 2 ^ s) : Nat) : Int))), some (vi (((s : Nat) : Int)))]) (dX9_shorterBits.at 21 rfl) rfl (by decide) rfl ?_
      refine sw_iinc (lo' := [some (vr (49)), some (vi (((x : Nat) : Int))), some (vi (((sd : Nat) : Int))), some (vi (((a ||| (1 * 2 ^ s) : Nat) : Int))), some (vi (((s + 1 : Nat) : Int)))]) (dX9_shorterBits.at 22 rfl) rfl (by decide) rfl ?_
      refine sw_goto (tgt := 5) (dX9_shorterBits.at 23 rfl) (by decide) ?_
      exact hv

set_option maxHeartbeats 4000000 in
theorem lp_X9_shorterBits_5 {G : GG} {j nw nx gn : Nat} {g : Nat → Sh} {c : Nat → Nat → Int} {post : Option AV → AM → Prop} {P : GD} {x : Nat} {sd : Nat} (hM : ML c P) (hV : GV P) (hC : GC P) (hx : x < gN P) (hsd : sd < 2) : ∀ (k : Nat) (s : Nat) (a : Nat), s + k = gR P → (post (some (vi (((sbF (dsc P x sd) k s a : Nat) : Int)))) (S nw nx g, 78 + gn, c)) → SW G (j + 1) mX9_shorterBits 5 [some (vr (49)), some (vi (((x : Nat) : Int))), some (vi (((sd : Nat) : Int))), some (vi (((a : Nat) : Int))), some (vi (((s : Nat) : Int)))] [] (S nw nx g, 78 + gn, c) B0 post := by
  intro k
  induction k with
  | zero =>
    intro s a hrel  K
    have h5 := GV_R hV
    simp only [sbF] at K
    refine g_X9_shorterBits_5 hM hV hC  ?_
    refine ⟨?_, ?_, ⟨fun q => ?_, fun q => ⟨?_, ?_, ?_, ⟨fun q => ?_, fun q => ⟨?_, ?_⟩⟩⟩⟩⟩
    all_goals first | omega | exact K | (exfalso; omega) | (simp only [*, if_true, if_false, ite_true, ite_false, Bool.false_eq_true, and_true, true_and, and_false, false_and, and_self, or_true, true_or, or_false, false_or, Bool.and_true, Bool.and_false, Bool.true_and, Bool.false_and, decide_true, decide_false, eq_self, not_true_eq_false, not_false_eq_true, ne_eq, reduceCtorEq] at K; exact K)
  | succ k ih =>
    intro s a hrel  K
    have h5 := GV_R hV
    simp only [sbF] at K
    refine g_X9_shorterBits_5 hM hV hC  ?_
    refine ⟨?_, ?_, ⟨fun q => ?_, fun q => ⟨?_, ?_, ?_, ⟨fun q => ?_, fun q => ⟨?_, ?_⟩⟩⟩⟩⟩
    all_goals first | omega | assumption | (exfalso; omega) | (simp only [*, if_true, if_false, ite_true, ite_false, Bool.false_eq_true, and_true, true_and, and_false, false_and, and_self, or_true, true_or, or_false, false_or, Bool.and_true, Bool.and_false, Bool.true_and, Bool.false_and, decide_true, decide_false, eq_self, not_true_eq_false, not_false_eq_true, ne_eq, reduceCtorEq] at K; first | exact K | exact ih _ _ (by omega)  K) | exact ih _ _ (by omega)  K

set_option maxHeartbeats 2000000 in
set_option maxRecDepth 20000 in
theorem g_X9_shorterBits_0 {G : GG} {j nw nx gn : Nat} {g : Nat → Sh} {c : Nat → Nat → Int} {post : Option AV → AM → Prop} {x : Nat} {sd : Nat}  (hv : SW G (j + 1) mX9_shorterBits 5 [some (vr (49)), some (vi (((x : Nat) : Int))), some (vi (((sd : Nat) : Int))), some (vi (0)), some (vi (0))] [] (S nw nx g, 78 + gn, c) B0 post) :
    SW G (j + 1) mX9_shorterBits 0 [some (vr (49)), some (vi (((x : Nat) : Int))), some (vi (((sd : Nat) : Int))), none, none] [] (S nw nx g, 78 + gn, c) B0 post := by
  refine sw_iconst (dX9_shorterBits.at 0 rfl) ?_
  refine sw_istore_n (lo' := [some (vr (49)), some (vi (((x : Nat) : Int))), some (vi (((sd : Nat) : Int))), some (vi (0)), none]) (dX9_shorterBits.at 1 rfl) rfl (by decide) rfl ?_
  refine sw_iconst (dX9_shorterBits.at 2 rfl) ?_
  refine sw_istore (lo' := [some (vr (49)), some (vi (((x : Nat) : Int))), some (vi (((sd : Nat) : Int))), some (vi (0)), some (vi (0))]) (dX9_shorterBits.at 3 rfl) (by decide) rfl ?_
  exact hv

set_option maxHeartbeats 2000000 in
theorem c_X9_shorterBits {G : GG} {j nw nx gn : Nat} {g : Nat → Sh} {c : Nat → Nat → Int} {post : Option AV → AM → Prop} {P : GD} {x : Nat} {sd : Nat} (hM : ML c P) (hV : GV P) (hC : GC P) (p1 : x < gN P) (p2 : sd < 2) (K : post (some (vi (((dsc P x sd : Nat) : Int)))) (S nw nx g, 78 + gn, c)) : SM G (j + 2) mX9_shorterBits [vr (49), vi (((x : Nat) : Int)), vi (((sd : Nat) : Int))] (S nw nx g, 78 + gn, c) 0 0 post := by
  refine sm_of wX9_shorterBits rfl (Nat.le_of_ble_eq_true rfl) ?_
  refine g_X9_shorterBits_0  ?_
  exact lp_X9_shorterBits_5 hM hV hC p1 p2 (gR P) 0 0 (by omega) (by rw [sbF_all (dsc_lt hC p1)]; exact K)

