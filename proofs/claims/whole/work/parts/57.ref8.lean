def swF (P : GD) (x : Nat) : Nat → Nat → Nat → Nat
  | 0, _, a => a
  | k + 1, s, a => swF P x k (s + 1) (a + (if (gE P x).testBit s then gW P (gS P x s) else 0))
def preF (P : GD) (x : Nat) : Nat → Nat
  | 0 => 0
  | s + 1 => preF P x s + gRF P x s
def hSp (P : GD) : Prop := gW P 0 = 1 ∧ ∀ x, 0 < x → x < gN P → swF P x (gR P) 0 0 = gW P x ∧ preF P x (gR P) = gW P x
set_option maxHeartbeats 2000000 in
set_option maxRecDepth 20000 in
theorem g_X9_spellingsOf_11 {G : GG} {j nw nx gn : Nat} {g : Nat → Sh} {c : Nat → Nat → Int} {post : Option AV → AM → Prop} {x : Nat} {P : GD} {t : Nat} {a : Nat} (hM : ML c P) (hV : GV P) (hC : GC P) (hrec : ∀ (y : Nat) (po : Option AV → AM → Prop), y < gN P → gL P y < gL P x → po (some (vl ((gW P y : Nat) : Int))) (S nw nx g, 78 + gn, c) → SM G (j + 2) mX9_spellingsOf [vr 49, vi ((y : Nat) : Int)] (S nw nx g, 78 + gn, c) 0 0 po)  (hv : (t < 2147483648) ∧ (gR P < 2147483648) ∧ (((gR P ≤ t) → post (some (vl (((a : Nat) : Int)))) (S nw nx g, 78 + gn, c)) ∧ ((¬ (gR P ≤ t)) → (x < gN P) ∧ (t < gR P) ∧ (1 < 2) ∧ (((((dsc P x 1).testBit t) = false) → SW G (j + 2) mX9_spellingsOf 11 [some (vr (49)), some (vi (((x : Nat) : Int))), some (vl (((a + 0 : Nat) : Int))), none, some (vi (((t + 1 : Nat) : Int)))] [] (S nw nx g, 78 + gn, c) B0 post) ∧ ((((dsc P x 1).testBit t) = true) → (x < gN P) ∧ (t < gR P) ∧ (((gS P x t) < gN P) ∧ (gL P (gS P x t) < gL P x) ∧ (SW G (j + 2) mX9_spellingsOf 11 [some (vr (49)), some (vi (((x : Nat) : Int))), some (vl (((a + (gW P (gS P x t)) : Nat) : Int))), none, some (vi (((t + 1 : Nat) : Int)))] [] (S nw nx g, 78 + gn, c) B0 post))))))) :
    SW G (j + 2) mX9_spellingsOf 11 [some (vr (49)), some (vi (((x : Nat) : Int))), some (vl (((a : Nat) : Int))), none, some (vi (((t : Nat) : Int)))] [] (S nw nx g, 78 + gn, c) B0 post := by
  refine sw_iload (dX9_spellingsOf.at 8 rfl) rfl ?_
  refine sw_aload_n (dX9_spellingsOf.at 9 rfl) rfl rfl ?_
  refine sw_getIE (w := ((gR P : Nat) : Int)) (dX9_spellingsOf.at 10 rfl) fp_X9_159 (S_lt 49 (by decide)) (S_49 nw nx g) rfl hM.1.1 ?_
  refine sw_icmpN_ge t (gR P) (tgt := 59) (dX9_spellingsOf.at 11 rfl) (by decide) hv.1 hv.2.1 (fun q => ?_) (fun q => ?_)
  · replace hv := hv.2.2.1 q
    refine sw_lload_n (dX9_spellingsOf.at 35 rfl) rfl rfl ?_
    exact sw_lret (dX9_spellingsOf.at 36 rfl) rfl (Nat.le_refl _) (Nat.le_refl _) hv
  · replace hv := hv.2.2.2 q
    refine sw_lload_n (dX9_spellingsOf.at 12 rfl) rfl rfl ?_
    refine sw_aload_n (dX9_spellingsOf.at 13 rfl) rfl rfl ?_
    refine sw_iload_n (dX9_spellingsOf.at 14 rfl) rfl rfl ?_
    refine sw_iload (dX9_spellingsOf.at 15 rfl) rfl ?_
    refine sw_iconst (dX9_spellingsOf.at 16 rfl) ?_
    refine sw_callV (B' := B0) (As := [vi (((x : Nat) : Int)), vi (((t : Nat) : Int)), vi (1)]) (mc := 0) (ms := 0) (dX9_spellingsOf.at 17 rfl) lk_X9_244 (S_lt 49 (by decide)) (S_49 nw nx g) rfl rfl (Nat.le_of_ble_eq_true rfl) rfl (Nat.le_refl _) (Nat.le_refl _) ?_
    refine c_X9_isShorter (x := x) (s := t) (sd := 1) (j := j + 1) hM hV hC hv.1 hv.2.1 hv.2.2.1 ?_
    replace hv := hv.2.2.2
    refine sw_if_eq (tgt := 50) (dX9_spellingsOf.at 18 rfl) (by decide) (bz_rng _) (fun q => ?_) (fun q => ?_)
    · replace hv := hv.1 (bz_0 q)
      refine sw_lconst (z := 0) (dX9_spellingsOf.at 30 rfl) (by decide) ?_
      refine sw_ladd (dX9_spellingsOf.at 31 rfl) ?_
      refine sw_topL (y := ((a + 0 : Nat) : Int)) (by first | rfl | (congr 1)) ?_
      refine sw_lstore_n (lo' := [some (vr (49)), some (vi (((x : Nat) : Int))), some (vl (((a + 0 : Nat) : Int))), none, some (vi (((t : Nat) : Int)))]) (dX9_spellingsOf.at 32 rfl) rfl (by decide) rfl ?_
      refine sw_iinc (lo' := [some (vr (49)), some (vi (((x : Nat) : Int))), some (vl (((a + 0 : Nat) : Int))), none, some (vi (((t + 1 : Nat) : Int)))]) (dX9_spellingsOf.at 33 rfl) rfl (by decide) rfl ?_
      refine sw_goto (tgt := 11) (dX9_spellingsOf.at 34 rfl) (by decide) ?_
      exact hv
    · replace hv := hv.2 (bz_n0 q)
      refine sw_aload_n (dX9_spellingsOf.at 19 rfl) rfl rfl ?_
      refine sw_aload_n (dX9_spellingsOf.at 20 rfl) rfl rfl ?_
      refine sw_getR (dX9_spellingsOf.at 21 rfl) fp_X9_26 (S_lt 49 (by decide)) (S_49 nw nx g) rfl rfl ?_
      refine sw_iconst (dX9_spellingsOf.at 22 rfl) ?_
      refine sw_iload_n (dX9_spellingsOf.at 23 rfl) rfl rfl ?_
      refine sw_imul (dX9_spellingsOf.at 24 rfl) ?_
      refine sw_topI (y := ((5 * x : Nat) : Int)) (by first | rfl | (congr 1)) ?_
      refine sw_iload (dX9_spellingsOf.at 25 rfl) rfl ?_
      refine sw_iadd (dX9_spellingsOf.at 26 rfl) ?_
      refine sw_topI (y := (((5 * x) + t : Nat) : Int)) (by first | rfl | (congr 1)) ?_
      refine sw_ialdN ((5 * x) + t) (w := ((gS P x t : Nat) : Int)) (dX9_spellingsOf.at 27 rfl) (S_lt 54 (by decide)) (S_54 nw nx g) (by decide) (GV_5 hV hv.1 hv.2.1) (ML_S hM hv.1 hv.2.1) ?_
      replace hv := hv.2.2
      refine sw_callV (B' := B0) (As := [vi (((gS P x t : Nat) : Int))]) (mc := 0) (ms := 0) (dX9_spellingsOf.at 28 rfl) lk_X9_255 (S_lt 49 (by decide)) (S_49 nw nx g) rfl rfl (Nat.le_of_ble_eq_true rfl) rfl (Nat.le_refl _) (Nat.le_refl _) ?_
      refine hrec (gS P x t) _ hv.1 hv.2.1 ?_
      replace hv := hv.2.2
      refine sw_goto (tgt := 51) (dX9_spellingsOf.at 29 rfl) (by decide) ?_
      refine sw_ladd (dX9_spellingsOf.at 31 rfl) ?_
      refine sw_topL (y := ((a + (gW P (gS P x t)) : Nat) : Int)) (by first | rfl | (congr 1)) ?_
      refine sw_lstore_n (lo' := [some (vr (49)), some (vi (((x : Nat) : Int))), some (vl (((a + (gW P (gS P x t)) : Nat) : Int))), none, some (vi (((t : Nat) : Int)))]) (dX9_spellingsOf.at 32 rfl) rfl (by decide) rfl ?_
      refine sw_iinc (lo' := [some (vr (49)), some (vi (((x : Nat) : Int))), some (vl (((a + (gW P (gS P x t)) : Nat) : Int))), none, some (vi (((t + 1 : Nat) : Int)))]) (dX9_spellingsOf.at 33 rfl) rfl (by decide) rfl ?_
      refine sw_goto (tgt := 11) (dX9_spellingsOf.at 34 rfl) (by decide) ?_
      exact hv

set_option maxHeartbeats 4000000 in
theorem lp_X9_spellingsOf_11 {G : GG} {j nw nx gn : Nat} {g : Nat → Sh} {c : Nat → Nat → Int} {post : Option AV → AM → Prop} {P : GD} {x : Nat} (hM : ML c P) (hV : GV P) (hC : GC P) (hrec : ∀ (y : Nat) (po : Option AV → AM → Prop), y < gN P → gL P y < gL P x → po (some (vl ((gW P y : Nat) : Int))) (S nw nx g, 78 + gn, c) → SM G (j + 2) mX9_spellingsOf [vr 49, vi ((y : Nat) : Int)] (S nw nx g, 78 + gn, c) 0 0 po) (hx : x < gN P) : ∀ (k : Nat) (t : Nat) (a : Nat), t + k = gR P → (post (some (vl (((swF P x k t a : Nat) : Int)))) (S nw nx g, 78 + gn, c)) → SW G (j + 2) mX9_spellingsOf 11 [some (vr (49)), some (vi (((x : Nat) : Int))), some (vl (((a : Nat) : Int))), none, some (vi (((t : Nat) : Int)))] [] (S nw nx g, 78 + gn, c) B0 post := by
  intro k
  induction k with
  | zero =>
    intro t a hrel  K
    have h5 := GV_R hV
    simp only [swF] at K
    refine g_X9_spellingsOf_11 hM hV hC hrec  ?_
    refine ⟨?_, ?_, ⟨fun q => ?_, fun q => ⟨?_, ?_, ?_, ⟨fun q => ?_, fun q => ⟨?_, ?_, ⟨?_, ?_, ?_⟩⟩⟩⟩⟩⟩
    all_goals first | omega | exact K | (exfalso; omega) | (simp only [*, if_true, if_false, ite_true, ite_false, Bool.false_eq_true, and_true, true_and, and_false, false_and, and_self, or_true, true_or, or_false, false_or, Bool.and_true, Bool.and_false, Bool.true_and, Bool.false_and, decide_true, decide_false, eq_self, not_true_eq_false, not_false_eq_true, ne_eq, reduceCtorEq] at K; exact K)
  | succ k ih =>
    intro t a hrel  K
    have h5 := GV_R hV
    rw [swF] at K
    have d9 := (hC.2.2.2.1 x t hx (by omega)).1
    have s9 := hV.2.2.2.1 x t hx (by omega)
    have l9 : (gE P x).testBit t = true → gL P (gS P x t) < gL P x := fun q => by rw [q] at d9; exact of_decide_eq_true d9.symm
    refine g_X9_spellingsOf_11 hM hV hC hrec  ?_
    
    rw [dsc1]
    refine ⟨?_, ?_, ⟨fun q => ?_, fun q => ⟨?_, ?_, ?_, ⟨fun q => ?_, fun q => ⟨?_, ?_, ⟨?_, ?_, ?_⟩⟩⟩⟩⟩⟩
    all_goals first | omega | assumption | exact l9 (by assumption) | (exfalso; omega) | (rw [if_pos (by assumption)] at K; exact ih _ _ (by omega) K) | (rw [if_neg (by rw [q]; decide)] at K; exact ih _ _ (by omega) K)

set_option maxHeartbeats 2000000 in
set_option maxRecDepth 20000 in
theorem g_X9_spellingsOf_0 {G : GG} {j nw nx gn : Nat} {g : Nat → Sh} {c : Nat → Nat → Int} {post : Option AV → AM → Prop} {x : Nat} {P : GD} (hM : ML c P) (hV : GV P) (hC : GC P)  (hv : (x < 2147483648) ∧ (((x ≠ 0) → SW G (j + 2) mX9_spellingsOf 11 [some (vr (49)), some (vi (((x : Nat) : Int))), some (vl (0)), none, some (vi (0))] [] (S nw nx g, 78 + gn, c) B0 post) ∧ ((x = 0) → post (some (vl (1))) (S nw nx g, 78 + gn, c)))) :
    SW G (j + 2) mX9_spellingsOf 0 [some (vr (49)), some (vi (((x : Nat) : Int))), none, none, none] [] (S nw nx g, 78 + gn, c) B0 post := by
  refine sw_iload_n (dX9_spellingsOf.at 0 rfl) rfl rfl ?_
  refine sw_ifN_ne x (tgt := 6) (dX9_spellingsOf.at 1 rfl) (by decide) hv.1 (fun q => ?_) (fun q => ?_)
  · replace hv := hv.2.1 q
    refine sw_lconst (z := 0) (dX9_spellingsOf.at 4 rfl) (by decide) ?_
    refine sw_lstore_n (lo' := [some (vr (49)), some (vi (((x : Nat) : Int))), some (vl (0)), none, none]) (dX9_spellingsOf.at 5 rfl) rfl (by decide) rfl ?_
    refine sw_iconst (dX9_spellingsOf.at 6 rfl) ?_
    refine sw_istore (lo' := [some (vr (49)), some (vi (((x : Nat) : Int))), some (vl (0)), none, some (vi (0))]) (dX9_spellingsOf.at 7 rfl) (by decide) rfl ?_
    exact hv
  · replace hv := hv.2.2 q
    refine sw_lconst (z := 1) (dX9_spellingsOf.at 2 rfl) (by decide) ?_
    exact sw_lret (dX9_spellingsOf.at 3 rfl) rfl (Nat.le_refl _) (Nat.le_refl _) hv

theorem c_X9_spellingsOfR {G : GG} {nw nx gn : Nat} {g : Nat → Sh} {c : Nat → Nat → Int}  {P : GD} (hM : ML c P) (hV : GV P) (hC : GC P) (hS : hSp P) : ∀ (L j x : Nat) (po : Option AV → AM → Prop), x < gN P → gL P x ≤ L → po (some (vl ((gW P x : Nat) : Int))) (S nw nx g, 78 + gn, c) → SM G (j + L + 3) mX9_spellingsOf [vr 49, vi ((x : Nat) : Int)] (S nw nx g, 78 + gn, c) 0 0 po := by
  have h60 := GV_N hV
  intro L
  induction L with
  | zero =>
    intro j x po hx hL K
    have e := (gL_0 hC hx).mp (by omega)
    subst e
    rw [hS.1] at K
    refine sm_of wX9_spellingsOf rfl (Nat.le_of_ble_eq_true rfl) ?_
    refine g_X9_spellingsOf_0 (j := j) hM hV hC ?_
    refine ⟨?_, ⟨fun q => ?_, fun q => ?_⟩⟩
    all_goals first | omega | exact K | (exfalso; omega)
  | succ L ih =>
    intro j x po hx hL K
    have e1 : j + (L + 1) + 3 = (j + L + 1) + 2 + 1 := by omega
    rw [e1]
    refine sm_of wX9_spellingsOf rfl (Nat.le_of_ble_eq_true rfl) ?_
    refine g_X9_spellingsOf_0 (j := j + L + 1) hM hV hC ?_
    by_cases h0 : x = 0
    · subst h0
      rw [hS.1] at K
      refine ⟨?_, ⟨fun q => ?_, fun q => ?_⟩⟩
      all_goals first | omega | exact K | (exfalso; omega)
    · have K2 := (hS.2 x (by omega) hx).1
      refine ⟨?_, ⟨fun q => ?_, fun q => ?_⟩⟩
      all_goals first | omega | (exfalso; omega) | exact lp_X9_spellingsOf_11 (j := j + L + 1) hM hV hC (fun y po hy hl K => (show j + L + 1 + 2 = j + L + 3 by omega) ▸ ih j y po hy (by omega) K) hx (gR P) 0 0 (by omega) (by rw [K2]; exact K)

set_option maxHeartbeats 2000000 in
set_option maxRecDepth 20000 in
theorem g_X9_spellings_0n {G : GG} {j nw nx gn : Nat} {g : Nat → Sh} {c : Nat → Nat → Int} {post : Option AV → AM → Prop} {x : Nat} {P : GD} (hM : ML c P) (hV : GV P) (hC : GC P) (hS : hSp P)  (hv : (-2147483648 ≤ ((x : Nat) : Int) ∧ ((x : Nat) : Int) < 2147483648) ∧ ((((decide (0 ≤ ((x : Nat) : Int) ∧ ((x : Nat) : Int) < (gN P : Int))) = false) → post (some (vl ((-2)))) (S nw nx g, 78 + gn, c)) ∧ (((decide (0 ≤ ((x : Nat) : Int) ∧ ((x : Nat) : Int) < (gN P : Int))) = true) → (x < gN P) ∧ (gL P x ≤ 13) ∧ (post (some (vl (((gW P x : Nat) : Int)))) (S nw nx g, 78 + gn, c))))) :
    SW G (j + 16) mX9_spellings 0 [some (vr (49)), some (vi (((x : Nat) : Int)))] [] (S nw nx g, 78 + gn, c) B0 post := by
  refine sw_aload_n (dX9_spellings.at 0 rfl) rfl rfl ?_
  refine sw_iload_n (dX9_spellings.at 1 rfl) rfl rfl ?_
  refine sw_callV (B' := B0) (As := [vi (((x : Nat) : Int))]) (mc := 0) (ms := 0) (dX9_spellings.at 2 rfl) lk_X9_251 (S_lt 49 (by decide)) (S_49 nw nx g) rfl rfl (Nat.le_of_ble_eq_true rfl) rfl (Nat.le_refl _) (Nat.le_refl _) ?_
  refine c_X9_isElement (x := ((x : Nat) : Int)) (j := j + 14) hM hV hv.1 ?_
  replace hv := hv.2
  refine sw_if_eq (tgt := 16) (dX9_spellings.at 3 rfl) (by decide) (bz_rng _) (fun q => ?_) (fun q => ?_)
  · replace hv := hv.1 (bz_0 q)
    refine sw_ldc2 (z := (-2)) (dX9_spellings.at 8 rfl) kc_X9_259 (by decide) ?_
    exact sw_lret (dX9_spellings.at 9 rfl) rfl (Nat.le_refl _) (Nat.le_refl _) hv
  · replace hv := hv.2 (bz_n0 q)
    refine sw_aload_n (dX9_spellings.at 4 rfl) rfl rfl ?_
    refine sw_iload_n (dX9_spellings.at 5 rfl) rfl rfl ?_
    refine sw_callV (B' := B0) (As := [vi (((x : Nat) : Int))]) (mc := 0) (ms := 0) (dX9_spellings.at 6 rfl) lk_X9_255 (S_lt 49 (by decide)) (S_49 nw nx g) rfl rfl (Nat.le_of_ble_eq_true rfl) rfl (Nat.le_refl _) (Nat.le_refl _) ?_
    refine c_X9_spellingsOfR hM hV hC hS 13 (j + 0) x _ hv.1 hv.2.1 ?_
    replace hv := hv.2.2
    refine sw_goto (tgt := 19) (dX9_spellings.at 7 rfl) (by decide) ?_
    exact sw_lret (dX9_spellings.at 9 rfl) rfl (Nat.le_refl _) (Nat.le_refl _) hv

set_option maxHeartbeats 2000000 in
set_option maxRecDepth 20000 in
theorem g_X9_spellings_0 {G : GG} {j nw nx gn : Nat} {g : Nat → Sh} {c : Nat → Nat → Int} {post : Option AV → AM → Prop} {x : Int} {P : GD} (hM : ML c P) (hV : GV P) (hC : GC P) (hS : hSp P)  (hv : (-2147483648 ≤ x ∧ x < 2147483648) ∧ ((((decide (0 ≤ x ∧ x < (gN P : Int))) = false) → post (some (vl ((-2)))) (S nw nx g, 78 + gn, c)) ∧ (((decide (0 ≤ x ∧ x < (gN P : Int))) = true) → SW G (j + 16) mX9_spellings 10 [some (vr (49)), some (vi (x))] [vi (x), vr (49)] (S nw nx g, 78 + gn, c) B0 post))) :
    SW G (j + 16) mX9_spellings 0 [some (vr (49)), some (vi (x))] [] (S nw nx g, 78 + gn, c) B0 post := by
  refine sw_aload_n (dX9_spellings.at 0 rfl) rfl rfl ?_
  refine sw_iload_n (dX9_spellings.at 1 rfl) rfl rfl ?_
  refine sw_callV (B' := B0) (As := [vi (x)]) (mc := 0) (ms := 0) (dX9_spellings.at 2 rfl) lk_X9_251 (S_lt 49 (by decide)) (S_49 nw nx g) rfl rfl (Nat.le_of_ble_eq_true rfl) rfl (Nat.le_refl _) (Nat.le_refl _) ?_
  refine c_X9_isElement (x := x) (j := j + 14) hM hV hv.1 ?_
  replace hv := hv.2
  refine sw_if_eq (tgt := 16) (dX9_spellings.at 3 rfl) (by decide) (bz_rng _) (fun q => ?_) (fun q => ?_)
  · replace hv := hv.1 (bz_0 q)
    refine sw_ldc2 (z := (-2)) (dX9_spellings.at 8 rfl) kc_X9_259 (by decide) ?_
    exact sw_lret (dX9_spellings.at 9 rfl) rfl (Nat.le_refl _) (Nat.le_refl _) hv
  · replace hv := hv.2 (bz_n0 q)
    refine sw_aload_n (dX9_spellings.at 4 rfl) rfl rfl ?_
    refine sw_iload_n (dX9_spellings.at 5 rfl) rfl rfl ?_
    exact hv

set_option maxHeartbeats 4000000 in
theorem c_X9_spellings {G : GG} {j nw nx gn : Nat} {g : Nat → Sh} {c : Nat → Nat → Int} {post : Option AV → AM → Prop} {P : GD} {x : Int} (hM : ML c P) (hV : GV P) (hC : GC P) (hS : hSp P) (p1 : -2147483648 ≤ x ∧ x < 2147483648) (K : ∀ c2 : Nat → Nat → Int, SC c c2 → post (some (vl (q_spellings P x))) (S nw nx g, 78 + gn, c2)) : SM G (j + 17) mX9_spellings [vr (49), vi (x)] (S nw nx g, 78 + gn, c) 0 0 post := by
  refine sm_of wX9_spellings rfl (Nat.le_of_ble_eq_true rfl) ?_
  have hN60 := GV_N hV
  have hR5 := GV_R hV
  by_cases hv : (0 ≤ x ∧ x < (gN P : Int))
  · obtain ⟨x, rfl⟩ : ∃ n : Nat, x = (n : Int) := ⟨x.toNat, by omega⟩
    have e : q_spellings P ((x : Nat) : Int) = ((gW P x : Nat) : Int) := by
      rw [q_spellings, if_pos hv]
      simp only [Int.toNat_natCast]
    rw [e] at K
    have K1 : ∀ (z : Int) (c2 : Nat → Nat → Int), (SC c c2) → z = (((gW P x : Nat) : Int)) → post (some (vl z)) (S nw nx g, 78 + gn, c2) := fun z c2 h e9 => e9 ▸ K c2 h
    have hx : x < gN P := by omega
    have fx := hV.2.2.1 x hx
    refine g_X9_spellings_0n hM hV hC hS ?_
    refine ⟨?_, ⟨fun q => ?_, fun q => ⟨?_, ?_, ?_⟩⟩⟩
    all_goals first | omega | assumption | (exfalso; simp only [decide_eq_true_eq, decide_eq_false_iff_not] at *; omega) | exact K _ (by first | exact SC_rf | assumption | (refine SC_tr ?_ (by assumption); first | assumption | (refine SC_tr ?_ (by assumption); first | assumption | (refine SC_tr ?_ (by assumption); assumption)))) | (refine K1 _ _ (by first | exact SC_rf | assumption | (refine SC_tr ?_ (by assumption); first | assumption | (refine SC_tr ?_ (by assumption); first | assumption | (refine SC_tr ?_ (by assumption); assumption)))) ?_; first | rfl | (simp [bz, *]; done) | (split <;> first | rfl | omega))
  · have e : q_spellings P x = (-2) := by rw [q_spellings, if_neg hv]
    rw [e] at K
    have K1 : ∀ (z : Int) (c2 : Nat → Nat → Int), (SC c c2) → z = ((-2)) → post (some (vl z)) (S nw nx g, 78 + gn, c2) := fun z c2 h e9 => e9 ▸ K c2 h
    refine g_X9_spellings_0 hM hV hC hS ?_
    refine ⟨?_, ⟨fun q => ?_, fun q => ?_⟩⟩
    all_goals first | omega | assumption | (exfalso; simp only [decide_eq_true_eq, decide_eq_false_iff_not] at *; omega) | exact K _ (by first | exact SC_rf | assumption | (refine SC_tr ?_ (by assumption); first | assumption | (refine SC_tr ?_ (by assumption); first | assumption | (refine SC_tr ?_ (by assumption); assumption)))) | (refine K1 _ _ (by first | exact SC_rf | assumption | (refine SC_tr ?_ (by assumption); first | assumption | (refine SC_tr ?_ (by assumption); first | assumption | (refine SC_tr ?_ (by assumption); assumption)))) ?_; first | rfl | (simp [bz, *]; done) | (split <;> first | rfl | omega))

