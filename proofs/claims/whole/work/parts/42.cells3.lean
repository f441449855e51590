def CD (P : GD) (T : PT) (c : Nat → Nat → Int) : Prop := ∀ kd x, kd < 3 → x < gN P → c 8 (kd * 60 + x) = ((RC P T kd x : Nat) : Int)
theorem CR_CD {P : GD} {T : PT} {c : Nat → Nat → Int} (h : CR P T c) (h1 : c 7 1 = 1) : CD P T c := by
  obtain ⟨f, hf, h2⟩ := h
  rcases h2 with h2 | h2
  · omega
  · intro kd x hk hx
    rw [hf, ← h2.2 kd x hk hx]
    rfl
theorem CR_same {P : GD} {T : PT} {c c2 : Nat → Nat → Int} (h : CR P T c) (h7 : c2 7 = c 7) (h8 : c2 8 = c 8) : CR P T c2 := by
  obtain ⟨f, hf, h2⟩ := h
  exact ⟨f, by rw [h8]; exact hf, by rw [h7]; exact h2⟩
theorem AT_same {P : GD} {T : PT} {c c2 : Nat → Nat → Int} (h : PR P T c) (h5 : c2 5 = c 5) (h6 : c2 6 = c 6) : PR P T c2 := by
  rw [PR, h5, h6]; exact h
set_option maxHeartbeats 2000000 in
set_option maxRecDepth 20000 in
theorem g_X8_prepareCells_0 {G : GG} {j nw nx gn : Nat} {g : Nat → Sh} {c : Nat → Nat → Int} {post : Option AV → AM → Prop} {P : GD} {T : PT} (hnw : nw = 21 ∨ nw = 35) (hE : EL c nw P) (hV : GV P) (hT : HT P T) (hR : PR P T c) (hC : CR P T c)  (hv : (PR P T c) ∧ (∀ c_1 : Nat → Nat → Int, ((∀ a, a ≠ 5 → a ≠ 6 → c_1 a = c a) ∧ c_1 5 1 = 1 ∧ AT P T (gN P) (c_1 6)) → (∀ c_2 : Nat → Nat → Int, (∀ a, a ≠ 7 → a ≠ 8 → c_2 a = c_1 a) ∧ c_2 7 1 = 1 ∧ CR P T c_2 → post none (S nw nx g, 78 + gn, c_2)))) :
    SW G (j + 5) mX8_prepareCells 0 [some (vr (0))] [] (S nw nx g, 78 + gn, c) B0 post := by
  refine sw_aload_n (dX8_prepareCells.at 0 rfl) rfl rfl ?_
  refine sw_getR (dX8_prepareCells.at 1 rfl) fp_X8_26 (S_lt 0 (by decide)) (S_0 nw nx g) rfl rfl ?_
  refine sw_aload_n (dX8_prepareCells.at 2 rfl) rfl rfl ?_
  refine sw_getR (dX8_prepareCells.at 3 rfl) fp_X8_65 (S_lt 0 (by decide)) (S_0 nw nx g) rfl rfl ?_
  refine sw_callV (B' := B0) (As := [vr (nw)]) (mc := 0) (ms := 0) (dX8_prepareCells.at 4 rfl) lk_X8_204 (S_lt 5 (by decide)) (S_5 nw nx g) rfl rfl (Nat.le_of_ble_eq_true rfl) rfl (Nat.le_refl _) (Nat.le_refl _) ?_
  refine c_X4_prepare (e := nw) (j := j + 0) hnw hE hV hT hv.1 (fun c_1 h_1 => ?_)
  replace hv := hv.2 c_1 h_1
  refine sw_aload_n (dX8_prepareCells.at 5 rfl) rfl rfl ?_
  refine sw_getR (dX8_prepareCells.at 6 rfl) fp_X8_33 (S_lt 0 (by decide)) (S_0 nw nx g) rfl rfl ?_
  refine sw_aload_n (dX8_prepareCells.at 7 rfl) rfl rfl ?_
  refine sw_getR (dX8_prepareCells.at 8 rfl) fp_X8_65 (S_lt 0 (by decide)) (S_0 nw nx g) rfl rfl ?_
  refine sw_aload_n (dX8_prepareCells.at 9 rfl) rfl rfl ?_
  refine sw_getR (dX8_prepareCells.at 10 rfl) fp_X8_26 (S_lt 0 (by decide)) (S_0 nw nx g) rfl rfl ?_
  refine sw_callV (B' := B0) (As := [vr (nw), vr (5)]) (mc := 0) (ms := 0) (dX8_prepareCells.at 11 rfl) lk_X8_338 (S_lt 7 (by decide)) (S_7 nw nx g) rfl rfl (Nat.le_of_ble_eq_true rfl) rfl (Nat.le_refl _) (Nat.le_refl _) ?_
  refine c_X0_prepare (T := T) (j := j + 1) hnw (EL_same hE (fun q hq => h_1.1 _ (by omega) (by omega))) hV hT h_1.2.2 (CR_same hC (h_1.1 7 (by decide) (by decide)) (h_1.1 8 (by decide) (by decide))) (fun c_2 h_2 => ?_)
  replace hv := hv c_2 h_2
  exact sw_vret (dX8_prepareCells.at 12 rfl) rfl (Nat.le_refl _) (Nat.le_refl _) hv

set_option maxHeartbeats 2000000 in
theorem c_X8_prepareCells {G : GG} {j nw nx gn : Nat} {g : Nat → Sh} {c : Nat → Nat → Int} {post : Option AV → AM → Prop} {P : GD} {T : PT} (hnw : nw = 21 ∨ nw = 35) (hE : EL c nw P) (hV : GV P) (hT : HT P T) (hR : PR P T c) (hC : CR P T c) (K : ∀ c2 : Nat → Nat → Int, ((∀ a, a < 5 ∨ 8 < a → c2 a = c a) ∧ PR P T c2 ∧ CR P T c2 ∧ CD P T c2) → post none (S nw nx g, 78 + gn, c2)) : SM G (j + 6) mX8_prepareCells [vr (0)] (S nw nx g, 78 + gn, c) 0 0 post := by
  refine sm_of wX8_prepareCells rfl (Nat.le_of_ble_eq_true rfl) ?_
  refine g_X8_prepareCells_0 hnw hE hV hT hR hC ?_
  refine ⟨?_, fun c_1 h_1 => fun c_2 h_2 => ?_⟩
  all_goals first | assumption | omega | (refine K c_2 ⟨fun a h => ?_, ?_, h_2.2.2, CR_CD h_2.2.2 h_2.2.1⟩; (rw [h_2.1 a (by omega) (by omega), h_1.1 a (by omega) (by omega)]); exact AT_same (Or.inr h_1.2) (h_2.1 5 (by decide) (by decide)) (h_2.1 6 (by decide) (by decide)))

set_option maxHeartbeats 2000000 in
set_option maxRecDepth 20000 in
theorem g_X0_leads_0 {G : GG} {j nw nx gn : Nat} {g : Nat → Sh} {c : Nat → Nat → Int} {post : Option AV → AM → Prop} {a : Nat} {b : Nat} {kd : Nat} {P : GD} {T : PT} (hV : GV P) (hD : CD P T c)  (hv : (kd < 3) ∧ (a < gN P) ∧ (((RC P T kd a) < 9223372036854775808) ∧ (b < 64) ∧ (post (some (vi (bz ((RC P T kd a).testBit b)))) (S nw nx g, 78 + gn, c)))) :
    SW G (j + 1) mX0_leads 0 [some (vr (7)), some (vi (((a : Nat) : Int))), some (vi (((b : Nat) : Int))), some (vi (((kd : Nat) : Int)))] [] (S nw nx g, 78 + gn, c) B0 post := by
  refine sw_aload_n (dX0_leads.at 0 rfl) rfl rfl ?_
  refine sw_getR (dX0_leads.at 1 rfl) fp_X0_9 (S_lt 7 (by decide)) (S_7 nw nx g) rfl rfl ?_
  refine sw_iload_n (dX0_leads.at 2 rfl) rfl rfl ?_
  refine sw_bipush (dX0_leads.at 3 rfl) (by decide) ?_
  refine sw_imul (dX0_leads.at 4 rfl) ?_
  refine sw_topI (y := ((kd * 60 : Nat) : Int)) (by first | rfl | (congr 1)) ?_
  refine sw_iload_n (dX0_leads.at 5 rfl) rfl rfl ?_
  refine sw_iadd (dX0_leads.at 6 rfl) ?_
  refine sw_topI (y := (((kd * 60) + a : Nat) : Int)) (by first | rfl | (congr 1)) ?_
  refine sw_laldN ((kd * 60) + a) (w := ((RC P T kd a : Nat) : Int)) (dX0_leads.at 7 rfl) (S_lt 8 (by decide)) (S_8 nw nx g) (by decide) (by have := GV_N hV; omega) (hD kd a hv.1 hv.2.1) ?_
  replace hv := hv.2.2
  refine sw_iload_n (dX0_leads.at 8 rfl) rfl rfl ?_
  refine sw_callN (B' := B0) (As := [vl (((RC P T kd a : Nat) : Int)), vi (((b : Nat) : Int))]) (mc := 0) (ms := 0) (dX0_leads.at 9 rfl) lk_X0_39 rfl rfl (Nat.le_of_ble_eq_true rfl) rfl (Nat.le_refl _) (Nat.le_refl _) ?_
  refine c_X8_hasBit (s := (RC P T kd a)) (i := b) (j := j + 0) hv.1 hv.2.1 ?_
  replace hv := hv.2.2
  exact sw_zret (dX0_leads.at 10 rfl) rfl (bz_01 _) (Nat.le_refl _) (Nat.le_refl _) hv

set_option maxHeartbeats 2000000 in
theorem c_X0_leads {G : GG} {j nw nx gn : Nat} {g : Nat → Sh} {c : Nat → Nat → Int} {post : Option AV → AM → Prop} {P : GD} {T : PT} {a : Nat} {b : Nat} {kd : Nat} (hV : GV P) (hD : CD P T c) (p1 : a < gN P) (p2 : b < gN P) (p3 : kd < 3) (K : post (some (vi (bz ((RC P T kd a).testBit b)))) (S nw nx g, 78 + gn, c)) : SM G (j + 2) mX0_leads [vr (7), vi (((a : Nat) : Int)), vi (((b : Nat) : Int)), vi (((kd : Nat) : Int))] (S nw nx g, 78 + gn, c) 0 0 post := by
  refine sm_of wX0_leads rfl (Nat.le_of_ble_eq_true rfl) ?_
  refine g_X0_leads_0 hV hD ?_
  have h60 := GV_N hV
  have b9 := lt63 (RCs_lt (P := P) (mu := muT P T) h60 p3 p1)
  refine ⟨?_, ?_, ⟨?_, ?_, ?_⟩⟩
  all_goals first | exact K | omega | exact b9

def pMem (P : GD) (T : PT) (kd x : Nat) : Nat → Bool := fun z => (RC P T kd x).testBit z && (RC P T kd z).testBit x
def gMem (P : GD) (T : PT) (kd x : Nat) : Nat := bitsU (pMem P T kd x) (gN P)
set_option maxHeartbeats 2000000 in
set_option maxRecDepth 20000 in
theorem g_X0_membersWith_6 {G : GG} {j nw nx gn : Nat} {g : Nat → Sh} {c : Nat → Nat → Int} {post : Option AV → AM → Prop} {x : Nat} {kd : Nat} {q0 : Nat} {P : GD} {T : PT} {z : Nat} (hV : GV P) (hD : CD P T c)  (hv : (z < 2147483648) ∧ (q0 < 2147483648) ∧ (((q0 ≤ z) → post (some (vl (((bitsU (pMem P T kd x) z : Nat) : Int)))) (S nw nx g, 78 + gn, c)) ∧ ((¬ (q0 ≤ z)) → (x < gN P) ∧ (z < gN P) ∧ (kd < 3) ∧ (((((RC P T kd x).testBit z) = false) → SW G (j + 2) mX0_membersWith 6 [some (vr (7)), some (vi (((x : Nat) : Int))), some (vi (((kd : Nat) : Int))), some (vi (((q0 : Nat) : Int))), some (vl (((bitsU (pMem P T kd x) z : Nat) : Int))), none, some (vi (((z + 1 : Nat) : Int)))] [] (S nw nx g, 78 + gn, c) B0 post) ∧ ((((RC P T kd x).testBit z) = true) → (z < gN P) ∧ (x < gN P) ∧ (kd < 3) ∧ (((((RC P T kd z).testBit x) = false) → SW G (j + 2) mX0_membersWith 6 [some (vr (7)), some (vi (((x : Nat) : Int))), some (vi (((kd : Nat) : Int))), some (vi (((q0 : Nat) : Int))), some (vl (((bitsU (pMem P T kd x) z : Nat) : Int))), none, some (vi (((z + 1 : Nat) : Int)))] [] (S nw nx g, 78 + gn, c) B0 post) ∧ ((((RC P T kd z).testBit x) = true) → (z < 64) ∧ (SW G (j + 2) mX0_membersWith 6 [some (vr (7)), some (vi (((x : Nat) : Int))), some (vi (((kd : Nat) : Int))), some (vi (((q0 : Nat) : Int))), some (vl ((((bitsU (pMem P T kd x) z) ||| (1 * 2 ^ z) : Nat) : Int))), none, some (vi (((z + 1 : Nat) : Int)))] [] (S nw nx g, 78 + gn, c) B0 post)))))))) :
    SW G (j + 2) mX0_membersWith 6 [some (vr (7)), some (vi (((x : Nat) : Int))), some (vi (((kd : Nat) : Int))), some (vi (((q0 : Nat) : Int))), some (vl (((bitsU (pMem P T kd x) z : Nat) : Int))), none, some (vi (((z : Nat) : Int)))] [] (S nw nx g, 78 + gn, c) B0 post := by
  refine sw_iload (dX0_membersWith.at 4 rfl) rfl ?_
  refine sw_iload_n (dX0_membersWith.at 5 rfl) rfl rfl ?_
  refine sw_icmpN_ge z q0 (tgt := 49) (dX0_membersWith.at 6 rfl) (by decide) hv.1 hv.2.1 (fun q => ?_) (fun q => ?_)
  · replace hv := hv.2.2.1 q
    refine sw_lload (dX0_membersWith.at 27 rfl) rfl ?_
    exact sw_lret (dX0_membersWith.at 28 rfl) rfl (Nat.le_refl _) (Nat.le_refl _) hv
  · replace hv := hv.2.2.2 q
    refine sw_aload_n (dX0_membersWith.at 7 rfl) rfl rfl ?_
    refine sw_iload_n (dX0_membersWith.at 8 rfl) rfl rfl ?_
    refine sw_iload (dX0_membersWith.at 9 rfl) rfl ?_
    refine sw_iload_n (dX0_membersWith.at 10 rfl) rfl rfl ?_
    refine sw_callV (B' := B0) (As := [vi (((x : Nat) : Int)), vi (((z : Nat) : Int)), vi (((kd : Nat) : Int))]) (mc := 0) (ms := 0) (dX0_membersWith.at 11 rfl) lk_X0_43 (S_lt 7 (by decide)) (S_7 nw nx g) rfl rfl (Nat.le_of_ble_eq_true rfl) rfl (Nat.le_refl _) (Nat.le_refl _) ?_
    refine c_X0_leads (T := T) (a := x) (b := z) (kd := kd) (j := j + 0) hV hD hv.1 hv.2.1 hv.2.2.1 ?_
    replace hv := hv.2.2.2
    refine sw_if_eq (tgt := 43) (dX0_membersWith.at 12 rfl) (by decide) (bz_rng _) (fun q => ?_) (fun q => ?_)
    · replace hv := hv.1 (bz_0 q)
      refine sw_iinc (lo' := [some (vr (7)), some (vi (((x : Nat) : Int))), some (vi (((kd : Nat) : Int))), some (vi (((q0 : Nat) : Int))), some (vl (((bitsU (pMem P T kd x) z : Nat) : Int))), none, some (vi (((z + 1 : Nat) : Int)))]) (dX0_membersWith.at 25 rfl) rfl (by decide) rfl ?_
      refine sw_goto (tgt := 6) (dX0_membersWith.at 26 rfl) (by decide) ?_
      exact hv
    · replace hv := hv.2 (bz_n0 q)
      refine sw_aload_n (dX0_membersWith.at 13 rfl) rfl rfl ?_
      refine sw_iload (dX0_membersWith.at 14 rfl) rfl ?_
      refine sw_iload_n (dX0_membersWith.at 15 rfl) rfl rfl ?_
      refine sw_iload_n (dX0_membersWith.at 16 rfl) rfl rfl ?_
      refine sw_callV (B' := B0) (As := [vi (((z : Nat) : Int)), vi (((x : Nat) : Int)), vi (((kd : Nat) : Int))]) (mc := 0) (ms := 0) (dX0_membersWith.at 17 rfl) lk_X0_43 (S_lt 7 (by decide)) (S_7 nw nx g) rfl rfl (Nat.le_of_ble_eq_true rfl) rfl (Nat.le_refl _) (Nat.le_refl _) ?_
      refine c_X0_leads (T := T) (a := z) (b := x) (kd := kd) (j := j + 0) hV hD hv.1 hv.2.1 hv.2.2.1 ?_
      replace hv := hv.2.2.2
      refine sw_if_eq (tgt := 43) (dX0_membersWith.at 18 rfl) (by decide) (bz_rng _) (fun q => ?_) (fun q => ?_)
      · replace hv := hv.1 (bz_0 q)
        refine sw_iinc (lo' := [some (vr (7)), some (vi (((x : Nat) : Int))), some (vi (((kd : Nat) : Int))), some (vi (((q0 : Nat) : Int))), some (vl (((bitsU (pMem P T kd x) z : Nat) : Int))), none, some (vi (((z + 1 : Nat) : Int)))]) (dX0_membersWith.at 25 rfl) rfl (by decide) rfl ?_
        refine sw_goto (tgt := 6) (dX0_membersWith.at 26 rfl) (by decide) ?_
        exact hv
      · replace hv := hv.2 (bz_n0 q)
        refine sw_lload (dX0_membersWith.at 19 rfl) rfl ?_
        refine sw_lconst (z := 1) (dX0_membersWith.at 20 rfl) (by decide) ?_
        refine sw_iload (dX0_membersWith.at 21 rfl) rfl ?_
        refine sw_lshlN 1 z (dX0_membersWith.at 22 rfl) hv.1 ?_
        replace hv := hv.2
        refine sw_lorN (bitsU (pMem P T kd x) z) (1 * 2 ^ z) (dX0_membersWith.at 23 rfl) ?_
        refine sw_lstore (lo' := [some (vr (7)), some (vi (((x : Nat) : Int))), some (vi (((kd : Nat) : Int))), some (vi (((q0 : Nat) : Int))), some (vl ((((bitsU (pMem P T kd x) z) ||| (1 * 2 ^ z) : Nat) : Int))), none, some (vi (((z : Nat) : Int)))]) (dX0_membersWith.at 24 rfl) (by decide) rfl ?_
        refine sw_iinc (lo' := [some (vr (7)), some (vi (((x : Nat) : Int))), some (vi (((kd : Nat) : Int))), some (vi (((q0 : Nat) : Int))), some (vl ((((bitsU (pMem P T kd x) z) ||| (1 * 2 ^ z) : Nat) : Int))), none, some (vi (((z + 1 : Nat) : Int)))]) (dX0_membersWith.at 25 rfl) rfl (by decide) rfl ?_
        refine sw_goto (tgt := 6) (dX0_membersWith.at 26 rfl) (by decide) ?_
        exact hv

set_option maxHeartbeats 2000000 in
theorem lp_X0_membersWith_6 {G : GG} {j nw nx gn : Nat} {g : Nat → Sh} {c : Nat → Nat → Int} {post : Option AV → AM → Prop} {P : GD} {T : PT} {x : Nat} {kd : Nat} {q0 : Nat} (hV : GV P) (hD : CD P T c) (hq : q0 = gN P) (hx0 : x < gN P) (hkd : kd < 3) (K : post (some (vl (((bitsU (pMem P T kd x) q0 : Nat) : Int)))) (S nw nx g, 78 + gn, c)) : ∀ k z : Nat, z + k = q0 → SW G (j + 2) mX0_membersWith 6 [some (vr (7)), some (vi (((x : Nat) : Int))), some (vi (((kd : Nat) : Int))), some (vi (((q0 : Nat) : Int))), some (vl (((bitsU (pMem P T kd x) z : Nat) : Int))), none, some (vi (((z : Nat) : Int)))] [] (S nw nx g, 78 + gn, c) B0 post := by
  intro k
  induction k with
  | zero =>
    intro z hx
    refine g_X0_membersWith_6 hV hD ?_
    have := GV_N hV
    have hx2 : z = q0 := by omega
    subst hx2
    refine ⟨?_, ?_, ⟨fun q => ?_, fun q => ⟨?_, ?_, ?_, ⟨fun q => ?_, fun q => ⟨?_, ?_, ?_, ⟨fun q => ?_, fun q => ⟨?_, ?_⟩⟩⟩⟩⟩⟩⟩
    all_goals first | exact K | omega | (exfalso; omega)
  | succ k ih =>
    intro z hx
    refine g_X0_membersWith_6 hV hD ?_
    have := GV_N hV
    have hi := ih (z + 1) (by omega)
    simp only [bitsU, pMem] at hi
    refine ⟨?_, ?_, ⟨fun q => ?_, fun q => ⟨?_, ?_, ?_, ⟨fun q => ?_, fun q => ⟨?_, ?_, ?_, ⟨fun q => ?_, fun q => ⟨?_, ?_⟩⟩⟩⟩⟩⟩⟩
    all_goals first | omega | (exfalso; omega) | assumption | exact hi | (simp only [*, if_true, if_false, ite_true, ite_false, Bool.false_eq_true, and_true, true_and, and_false, false_and, Bool.and_true, Bool.and_false, Bool.true_and, Bool.false_and, decide_true, decide_false] at hi; exact hi) | (simp only [*, if_true, if_false, ite_true, ite_false, Bool.false_eq_true, and_true, true_and, and_false, false_and, Bool.and_true, Bool.and_false, Bool.true_and, Bool.false_and, decide_true, decide_false] at hi ⊢; exact hi)

set_option maxHeartbeats 2000000 in
set_option maxRecDepth 20000 in
theorem g_X0_membersWith_0 {G : GG} {j nw nx gn : Nat} {g : Nat → Sh} {c : Nat → Nat → Int} {post : Option AV → AM → Prop} {x : Nat} {kd : Nat} {q0 : Nat}  (hv : SW G (j + 2) mX0_membersWith 6 [some (vr (7)), some (vi (((x : Nat) : Int))), some (vi (((kd : Nat) : Int))), some (vi (((q0 : Nat) : Int))), some (vl (0)), none, some (vi (0))] [] (S nw nx g, 78 + gn, c) B0 post) :
    SW G (j + 2) mX0_membersWith 0 [some (vr (7)), some (vi (((x : Nat) : Int))), some (vi (((kd : Nat) : Int))), some (vi (((q0 : Nat) : Int))), none, none, none] [] (S nw nx g, 78 + gn, c) B0 post := by
  refine sw_lconst (z := 0) (dX0_membersWith.at 0 rfl) (by decide) ?_
  refine sw_lstore (lo' := [some (vr (7)), some (vi (((x : Nat) : Int))), some (vi (((kd : Nat) : Int))), some (vi (((q0 : Nat) : Int))), some (vl (0)), none, none]) (dX0_membersWith.at 1 rfl) (by decide) rfl ?_
  refine sw_iconst (dX0_membersWith.at 2 rfl) ?_
  refine sw_istore (lo' := [some (vr (7)), some (vi (((x : Nat) : Int))), some (vi (((kd : Nat) : Int))), some (vi (((q0 : Nat) : Int))), some (vl (0)), none, some (vi (0))]) (dX0_membersWith.at 3 rfl) (by decide) rfl ?_
  exact hv

set_option maxHeartbeats 2000000 in
theorem c_X0_membersWith {G : GG} {j nw nx gn : Nat} {g : Nat → Sh} {c : Nat → Nat → Int} {post : Option AV → AM → Prop} {P : GD} {T : PT} {x : Nat} {kd : Nat} {q0 : Nat} (hV : GV P) (hD : CD P T c) (p1 : q0 = gN P) (p2 : x < gN P) (p3 : kd < 3) (K : post (some (vl (((bitsU (pMem P T kd x) q0 : Nat) : Int)))) (S nw nx g, 78 + gn, c)) : SM G (j + 3) mX0_membersWith [vr (7), vi (((x : Nat) : Int)), vi (((kd : Nat) : Int)), vi (((q0 : Nat) : Int))] (S nw nx g, 78 + gn, c) 0 0 post := by
  refine sm_of wX0_membersWith rfl (Nat.le_of_ble_eq_true rfl) ?_
  refine g_X0_membersWith_0  ?_
  exact lp_X0_membersWith_6 hV hD p1 p2 p3 K q0 0 (by omega)

theorem RC_self {P : GD} {T : PT} (hV : GV P) {kd x : Nat} (hx : x < gN P) : (RC P T kd x).testBit x = true := by
  have h60 := GV_N hV
  have hX : ∀ (n s m : Nat) (k y : Nat) (f : Nat → Nat), (f (s + x)).testBit x = true → (clX f s m k y (s + x)).testBit x = true := by
    intro n s m k
    induction k with
    | zero => intro y f h; exact h
    | succ k ih =>
      intro y f h
      rw [clX]
      refine ih _ _ ?_
      split
      · by_cases e : s + x = s + y
        · rw [e, uN_eq, ← e, Nat.testBit_or, h, Bool.true_or]
        · rw [uN_ne e]; exact h
      · exact h
  have hM : ∀ (n s k m : Nat) (f : Nat → Nat), (f (s + x)).testBit x = true → (clM s n k m f (s + x)).testBit x = true := by
    intro n s k
    induction k with
    | zero => intro m f h; exact h
    | succ k ih => intro m f h; exact ih _ _ (hX n s m n 0 f h)
  have h0 := hM (gN P) 0 (gN P) 0 (fun y => bitsU (edB P (muT P T) kd y) (gN P)) (by
    rw [bitsU_bit, edB, Nat.zero_add]; simp [hx])
  rw [Nat.zero_add] at h0
  exact h0
theorem gMem_ok {P : GD} {T : PT} (hV : GV P) {kd x : Nat} (hx : x < gN P) : 0 < gMem P T kd x ∧ gMem P T kd x < 2 ^ 63 := by
  have h60 := GV_N hV
  refine ⟨Nat.pos_of_ne_zero (fun e => ?_), Nat.lt_trans (bitsU_63 h60) (by decide)⟩
  have := congrArg (fun z => z.testBit x) e
  simp [gMem, bitsU_bit, pMem, RC_self hV hx, hx] at this
def q_cellOf (P : GD) (T : PT) (x kd : Int) : Int := if (0 ≤ x ∧ x < (gN P : Int)) ∧ 0 ≤ kd ∧ kd < 3 then ((gMem P T kd.toNat x.toNat : Nat) : Int) else (-2)
set_option maxHeartbeats 2000000 in
set_option maxRecDepth 20000 in
theorem g_X8_cellOf_0n {G : GG} {j nw nx gn : Nat} {g : Nat → Sh} {c : Nat → Nat → Int} {post : Option AV → AM → Prop} {x : Nat} {kd : Nat} {P : GD} {T : PT} (hnw : nw = 21 ∨ nw = 35) (hE : EL c nw P) (hV : GV P) (hT : HT P T) (hR : PR P T c) (hC : CR P T c)  (hv : (-2147483648 ≤ ((x : Nat) : Int) ∧ ((x : Nat) : Int) < 2147483648) ∧ ((((decide (0 ≤ ((x : Nat) : Int) ∧ ((x : Nat) : Int) < (gN P : Int))) = false) → post (some (vl ((-2)))) (S nw nx g, 78 + gn, c)) ∧ (((decide (0 ≤ ((x : Nat) : Int) ∧ ((x : Nat) : Int) < (gN P : Int))) = true) → (-2147483648 ≤ ((kd : Nat) : Int) ∧ ((kd : Nat) : Int) < 2147483648) ∧ ((((decide (0 ≤ ((kd : Nat) : Int) ∧ ((kd : Nat) : Int) < 3)) = true) → (∀ c_1 : Nat → Nat → Int, ((∀ a, a < 5 ∨ 8 < a → c_1 a = c a) ∧ PR P T c_1 ∧ CR P T c_1 ∧ CD P T c_1) → ((gN P) = gN P) ∧ (x < gN P) ∧ (kd < 3) ∧ (post (some (vl (((bitsU (pMem P T kd x) (gN P) : Nat) : Int)))) (S nw nx g, 78 + gn, c_1)))) ∧ (((decide (0 ≤ ((kd : Nat) : Int) ∧ ((kd : Nat) : Int) < 3)) = false) → post (some (vl ((-2)))) (S nw nx g, 78 + gn, c)))))) :
    SW G (j + 6) mX8_cellOf 0 [some (vr (0)), some (vi (((x : Nat) : Int))), some (vi (((kd : Nat) : Int)))] [] (S nw nx g, 78 + gn, c) B0 post := by
  refine sw_aload_n (dX8_cellOf.at 0 rfl) rfl rfl ?_
  refine sw_iload_n (dX8_cellOf.at 1 rfl) rfl rfl ?_
  refine sw_callV (B' := B0) (As := [vi (((x : Nat) : Int))]) (mc := 0) (ms := 0) (dX8_cellOf.at 2 rfl) lk_X8_130 (S_lt 0 (by decide)) (S_0 nw nx g) rfl rfl (Nat.le_of_ble_eq_true rfl) rfl (Nat.le_refl _) (Nat.le_refl _) ?_
  refine c_X8_isElementP (x := ((x : Nat) : Int)) (j := j + 5) hnw hE hV hv.1 ?_
  replace hv := hv.2
  refine sw_if_eq (tgt := 15) (dX8_cellOf.at 3 rfl) (by decide) (bz_rng _) (fun q => ?_) (fun q => ?_)
  · replace hv := hv.1 (bz_0 q)
    refine sw_ldc2 (z := (-2)) (dX8_cellOf.at 7 rfl) kc_X8_147 (by decide) ?_
    exact sw_lret (dX8_cellOf.at 8 rfl) rfl (Nat.le_refl _) (Nat.le_refl _) hv
  · replace hv := hv.2 (bz_n0 q)
    refine sw_iload_n (dX8_cellOf.at 4 rfl) rfl rfl ?_
    refine sw_callS (post' := post) (B' := B0) (As := [vi (((kd : Nat) : Int))]) (mc := 0) (ms := 0) (dX8_cellOf.at 5 rfl) lk_X8_235 rfl rfl (Nat.le_of_ble_eq_true rfl) rfl (Nat.le_refl _) (Nat.le_refl _) ?_
    refine c_X8_isKind (x := ((kd : Nat) : Int)) (j := j + 5) hv.1 ?_
    replace hv := hv.2
    refine sw_if_ne (tgt := 19) (dX8_cellOf.at 6 rfl) (by decide) (bz_rng _) (fun q => ?_) (fun q => ?_)
    · replace hv := hv.1 (bz_1 q)
      refine sw_aload_n (dX8_cellOf.at 9 rfl) rfl rfl ?_
      refine sw_callV (B' := B0) (As := []) (mc := 0) (ms := 0) (dX8_cellOf.at 10 rfl) lk_X8_238 (S_lt 0 (by decide)) (S_0 nw nx g) rfl rfl (Nat.le_of_ble_eq_true rfl) rfl (Nat.le_refl _) (Nat.le_refl _) ?_
      refine c_X8_prepareCells  (j := j + 0) hnw hE hV hT hR hC (fun c_1 h_1 => ?_)
      replace hv := hv c_1 h_1
      refine sw_aload_n (dX8_cellOf.at 11 rfl) rfl rfl ?_
      refine sw_getR (dX8_cellOf.at 12 rfl) fp_X8_33 (S_lt 0 (by decide)) (S_0 nw nx g) rfl rfl ?_
      refine sw_iload_n (dX8_cellOf.at 13 rfl) rfl rfl ?_
      refine sw_iload_n (dX8_cellOf.at 14 rfl) rfl rfl ?_
      refine sw_aload_n (dX8_cellOf.at 15 rfl) rfl rfl ?_
      refine sw_getR (dX8_cellOf.at 16 rfl) fp_X8_65 (S_lt 0 (by decide)) (S_0 nw nx g) rfl rfl ?_
      refine sw_getIE (w := ((gN P : Nat) : Int)) (dX8_cellOf.at 17 rfl) fp_X8_103 (S_e_lt hnw) (S_e hnw) rfl (EL_N (EL_same hE (fun q hq => h_1.1 _ (by omega)))) ?_
      refine sw_callV (B' := B0) (As := [vi (((x : Nat) : Int)), vi (((kd : Nat) : Int)), vi (((gN P : Nat) : Int))]) (mc := 0) (ms := 0) (dX8_cellOf.at 18 rfl) lk_X8_241 (S_lt 7 (by decide)) (S_7 nw nx g) rfl rfl (Nat.le_of_ble_eq_true rfl) rfl (Nat.le_refl _) (Nat.le_refl _) ?_
      refine c_X0_membersWith (T := T) (x := x) (q0 := (gN P)) (kd := kd) (j := j + 3) hV h_1.2.2.2 hv.1 hv.2.1 hv.2.2.1 ?_
      replace hv := hv.2.2.2
      exact sw_lret (dX8_cellOf.at 19 rfl) rfl (Nat.le_refl _) (Nat.le_refl _) hv
    · replace hv := hv.2 (bz_n1 q)
      refine sw_ldc2 (z := (-2)) (dX8_cellOf.at 7 rfl) kc_X8_147 (by decide) ?_
      exact sw_lret (dX8_cellOf.at 8 rfl) rfl (Nat.le_refl _) (Nat.le_refl _) hv

set_option maxHeartbeats 2000000 in
set_option maxRecDepth 20000 in
theorem g_X8_cellOf_0 {G : GG} {j nw nx gn : Nat} {g : Nat → Sh} {c : Nat → Nat → Int} {post : Option AV → AM → Prop} {x : Int} {kd : Int} {P : GD} {T : PT} (hnw : nw = 21 ∨ nw = 35) (hE : EL c nw P) (hV : GV P) (hT : HT P T) (hR : PR P T c) (hC : CR P T c)  (hv : (-2147483648 ≤ x ∧ x < 2147483648) ∧ ((((decide (0 ≤ x ∧ x < (gN P : Int))) = false) → post (some (vl ((-2)))) (S nw nx g, 78 + gn, c)) ∧ (((decide (0 ≤ x ∧ x < (gN P : Int))) = true) → (-2147483648 ≤ kd ∧ kd < 2147483648) ∧ ((((decide (0 ≤ kd ∧ kd < 3)) = true) → (∀ c_1 : Nat → Nat → Int, ((∀ a, a < 5 ∨ 8 < a → c_1 a = c a) ∧ PR P T c_1 ∧ CR P T c_1 ∧ CD P T c_1) → SW G (j + 6) mX8_cellOf 36 [some (vr (0)), some (vi (x)), some (vi (kd))] [vi (((gN P : Nat) : Int)), vi (kd), vi (x), vr (7)] (S nw nx g, 78 + gn, c_1) B0 post)) ∧ (((decide (0 ≤ kd ∧ kd < 3)) = false) → post (some (vl ((-2)))) (S nw nx g, 78 + gn, c)))))) :
    SW G (j + 6) mX8_cellOf 0 [some (vr (0)), some (vi (x)), some (vi (kd))] [] (S nw nx g, 78 + gn, c) B0 post := by
  refine sw_aload_n (dX8_cellOf.at 0 rfl) rfl rfl ?_
  refine sw_iload_n (dX8_cellOf.at 1 rfl) rfl rfl ?_
  refine sw_callV (B' := B0) (As := [vi (x)]) (mc := 0) (ms := 0) (dX8_cellOf.at 2 rfl) lk_X8_130 (S_lt 0 (by decide)) (S_0 nw nx g) rfl rfl (Nat.le_of_ble_eq_true rfl) rfl (Nat.le_refl _) (Nat.le_refl _) ?_
  refine c_X8_isElementP (x := x) (j := j + 5) hnw hE hV hv.1 ?_
  replace hv := hv.2
  refine sw_if_eq (tgt := 15) (dX8_cellOf.at 3 rfl) (by decide) (bz_rng _) (fun q => ?_) (fun q => ?_)
  · replace hv := hv.1 (bz_0 q)
    refine sw_ldc2 (z := (-2)) (dX8_cellOf.at 7 rfl) kc_X8_147 (by decide) ?_
    exact sw_lret (dX8_cellOf.at 8 rfl) rfl (Nat.le_refl _) (Nat.le_refl _) hv
  · replace hv := hv.2 (bz_n0 q)
    refine sw_iload_n (dX8_cellOf.at 4 rfl) rfl rfl ?_
    refine sw_callS (post' := post) (B' := B0) (As := [vi (kd)]) (mc := 0) (ms := 0) (dX8_cellOf.at 5 rfl) lk_X8_235 rfl rfl (Nat.le_of_ble_eq_true rfl) rfl (Nat.le_refl _) (Nat.le_refl _) ?_
    refine c_X8_isKind (x := kd) (j := j + 5) hv.1 ?_
    replace hv := hv.2
    refine sw_if_ne (tgt := 19) (dX8_cellOf.at 6 rfl) (by decide) (bz_rng _) (fun q => ?_) (fun q => ?_)
    · replace hv := hv.1 (bz_1 q)
      refine sw_aload_n (dX8_cellOf.at 9 rfl) rfl rfl ?_
      refine sw_callV (B' := B0) (As := []) (mc := 0) (ms := 0) (dX8_cellOf.at 10 rfl) lk_X8_238 (S_lt 0 (by decide)) (S_0 nw nx g) rfl rfl (Nat.le_of_ble_eq_true rfl) rfl (Nat.le_refl _) (Nat.le_refl _) ?_
      refine c_X8_prepareCells  (j := j + 0) hnw hE hV hT hR hC (fun c_1 h_1 => ?_)
      replace hv := hv c_1 h_1
      refine sw_aload_n (dX8_cellOf.at 11 rfl) rfl rfl ?_
      refine sw_getR (dX8_cellOf.at 12 rfl) fp_X8_33 (S_lt 0 (by decide)) (S_0 nw nx g) rfl rfl ?_
      refine sw_iload_n (dX8_cellOf.at 13 rfl) rfl rfl ?_
      refine sw_iload_n (dX8_cellOf.at 14 rfl) rfl rfl ?_
      refine sw_aload_n (dX8_cellOf.at 15 rfl) rfl rfl ?_
      refine sw_getR (dX8_cellOf.at 16 rfl) fp_X8_65 (S_lt 0 (by decide)) (S_0 nw nx g) rfl rfl ?_
      refine sw_getIE (w := ((gN P : Nat) : Int)) (dX8_cellOf.at 17 rfl) fp_X8_103 (S_e_lt hnw) (S_e hnw) rfl (EL_N (EL_same hE (fun q hq => h_1.1 _ (by omega)))) ?_
      exact hv
    · replace hv := hv.2 (bz_n1 q)
      refine sw_ldc2 (z := (-2)) (dX8_cellOf.at 7 rfl) kc_X8_147 (by decide) ?_
      exact sw_lret (dX8_cellOf.at 8 rfl) rfl (Nat.le_refl _) (Nat.le_refl _) hv

set_option maxHeartbeats 4000000 in
theorem c_X8_cellOf {G : GG} {j nw nx gn : Nat} {g : Nat → Sh} {c : Nat → Nat → Int} {post : Option AV → AM → Prop} {P : GD} {T : PT} {x kd : Int} (hnw : nw = 21 ∨ nw = 35) (hE : EL c nw P) (hV : GV P) (hT : HT P T) (hR : PR P T c) (hC : CR P T c) (p1 : -2147483648 ≤ x ∧ x < 2147483648) (p2 : -2147483648 ≤ kd ∧ kd < 2147483648) (K : ∀ c2 : Nat → Nat → Int, ((∀ a, a < 5 ∨ 8 < a → c2 a = c a) ∧ PR P T c2 ∧ CR P T c2) → post (some (vl (q_cellOf P T x kd))) (S nw nx g, 78 + gn, c2)) : SM G (j + 7) mX8_cellOf [vr (0), vi (x), vi (kd)] (S nw nx g, 78 + gn, c) 0 0 post := by
  refine sm_of wX8_cellOf rfl (Nat.le_of_ble_eq_true rfl) ?_
  have hN60 := GV_N hV
  have hR5 := GV_R hV
  by_cases hv : (0 ≤ x ∧ x < (gN P : Int)) ∧ 0 ≤ kd ∧ kd < 3
  · obtain ⟨x, rfl⟩ : ∃ n : Nat, x = (n : Int) := ⟨x.toNat, by omega⟩
    obtain ⟨kd, rfl⟩ : ∃ n : Nat, kd = (n : Int) := ⟨kd.toNat, by omega⟩
    have e : q_cellOf P T ((x : Nat) : Int) ((kd : Nat) : Int) = ((gMem P T kd x : Nat) : Int) := by
      rw [q_cellOf, if_pos hv]
      simp only [Int.toNat_natCast]
    rw [e] at K
    have hx : x < gN P := by omega
    have g9 := gMem_ok (T := T) hV (kd := kd) hx
    rw [gMem] at g9
    refine g_X8_cellOf_0n hnw hE hV hT hR hC ?_
    refine ⟨?_, ⟨fun q => ?_, fun q => ⟨?_, ⟨fun q => fun c_1 h_1 => ⟨?_, ?_, ?_, ?_⟩, fun q => ?_⟩⟩⟩⟩
    all_goals first | omega | assumption | (exfalso; simp only [decide_eq_true_eq, decide_eq_false_iff_not] at *; omega) | exact K c_1 ⟨h_1.1, h_1.2.1, h_1.2.2.1⟩
  · have e : q_cellOf P T x kd = (-2) := by rw [q_cellOf, if_neg hv]
    rw [e] at K
    refine g_X8_cellOf_0 hnw hE hV hT hR hC ?_
    have K := K c ⟨fun _ _ => rfl, hR, hC⟩
    refine ⟨?_, ⟨fun q => ?_, fun q => ⟨?_, ⟨fun q => fun c_1 h_1 => ?_, fun q => ?_⟩⟩⟩⟩
    all_goals first | exact K | omega | assumption | (exfalso; simp only [decide_eq_true_eq, decide_eq_false_iff_not] at *; omega)

def q_cell (P : GD) (T : PT) (x kd : Int) : Int := if (0 ≤ x ∧ x < (gN P : Int)) ∧ 0 ≤ kd ∧ kd < 3 then ((lsb (gMem P T kd.toNat x.toNat) : Nat) : Int) else (-2)
set_option maxHeartbeats 2000000 in
set_option maxRecDepth 20000 in
theorem g_X8_cell_0n {G : GG} {j nw nx gn : Nat} {g : Nat → Sh} {c : Nat → Nat → Int} {post : Option AV → AM → Prop} {x : Nat} {kd : Nat} {P : GD} {T : PT} (hnw : nw = 21 ∨ nw = 35) (hE : EL c nw P) (hV : GV P) (hT : HT P T) (hR : PR P T c) (hC : CR P T c)  (hv : (-2147483648 ≤ ((x : Nat) : Int) ∧ ((x : Nat) : Int) < 2147483648) ∧ ((((decide (0 ≤ ((x : Nat) : Int) ∧ ((x : Nat) : Int) < (gN P : Int))) = false) → post (some (vi ((-2)))) (S nw nx g, 78 + gn, c)) ∧ (((decide (0 ≤ ((x : Nat) : Int) ∧ ((x : Nat) : Int) < (gN P : Int))) = true) → (-2147483648 ≤ ((kd : Nat) : Int) ∧ ((kd : Nat) : Int) < 2147483648) ∧ ((((decide (0 ≤ ((kd : Nat) : Int) ∧ ((kd : Nat) : Int) < 3)) = true) → (∀ c_1 : Nat → Nat → Int, ((∀ a, a < 5 ∨ 8 < a → c_1 a = c a) ∧ PR P T c_1 ∧ CR P T c_1 ∧ CD P T c_1) → ((gN P) = gN P) ∧ (x < gN P) ∧ (kd < 3) ∧ ((0 < (bitsU (pMem P T kd x) (gN P))) ∧ ((bitsU (pMem P T kd x) (gN P)) < 2 ^ 63) ∧ (post (some (vi (((lsb (bitsU (pMem P T kd x) (gN P)) : Nat) : Int)))) (S nw nx g, 78 + gn, c_1))))) ∧ (((decide (0 ≤ ((kd : Nat) : Int) ∧ ((kd : Nat) : Int) < 3)) = false) → post (some (vi ((-2)))) (S nw nx g, 78 + gn, c)))))) :
    SW G (j + 6) mX8_cell 0 [some (vr (0)), some (vi (((x : Nat) : Int))), some (vi (((kd : Nat) : Int)))] [] (S nw nx g, 78 + gn, c) B0 post := by
  refine sw_aload_n (dX8_cell.at 0 rfl) rfl rfl ?_
  refine sw_iload_n (dX8_cell.at 1 rfl) rfl rfl ?_
  refine sw_callV (B' := B0) (As := [vi (((x : Nat) : Int))]) (mc := 0) (ms := 0) (dX8_cell.at 2 rfl) lk_X8_130 (S_lt 0 (by decide)) (S_0 nw nx g) rfl rfl (Nat.le_of_ble_eq_true rfl) rfl (Nat.le_refl _) (Nat.le_refl _) ?_
  refine c_X8_isElementP (x := ((x : Nat) : Int)) (j := j + 5) hnw hE hV hv.1 ?_
  replace hv := hv.2
  refine sw_if_eq (tgt := 15) (dX8_cell.at 3 rfl) (by decide) (bz_rng _) (fun q => ?_) (fun q => ?_)
  · replace hv := hv.1 (bz_0 q)
    refine sw_bipush (dX8_cell.at 7 rfl) (by decide) ?_
    exact sw_iret (dX8_cell.at 8 rfl) rfl (Nat.le_refl _) (Nat.le_refl _) hv
  · replace hv := hv.2 (bz_n0 q)
    refine sw_iload_n (dX8_cell.at 4 rfl) rfl rfl ?_
    refine sw_callS (post' := post) (B' := B0) (As := [vi (((kd : Nat) : Int))]) (mc := 0) (ms := 0) (dX8_cell.at 5 rfl) lk_X8_235 rfl rfl (Nat.le_of_ble_eq_true rfl) rfl (Nat.le_refl _) (Nat.le_refl _) ?_
    refine c_X8_isKind (x := ((kd : Nat) : Int)) (j := j + 5) hv.1 ?_
    replace hv := hv.2
    refine sw_if_ne (tgt := 18) (dX8_cell.at 6 rfl) (by decide) (bz_rng _) (fun q => ?_) (fun q => ?_)
    · replace hv := hv.1 (bz_1 q)
      refine sw_aload_n (dX8_cell.at 9 rfl) rfl rfl ?_
      refine sw_callV (B' := B0) (As := []) (mc := 0) (ms := 0) (dX8_cell.at 10 rfl) lk_X8_238 (S_lt 0 (by decide)) (S_0 nw nx g) rfl rfl (Nat.le_of_ble_eq_true rfl) rfl (Nat.le_refl _) (Nat.le_refl _) ?_
      refine c_X8_prepareCells  (j := j + 0) hnw hE hV hT hR hC (fun c_1 h_1 => ?_)
      replace hv := hv c_1 h_1
      refine sw_aload_n (dX8_cell.at 11 rfl) rfl rfl ?_
      refine sw_getR (dX8_cell.at 12 rfl) fp_X8_33 (S_lt 0 (by decide)) (S_0 nw nx g) rfl rfl ?_
      refine sw_iload_n (dX8_cell.at 13 rfl) rfl rfl ?_
      refine sw_iload_n (dX8_cell.at 14 rfl) rfl rfl ?_
      refine sw_aload_n (dX8_cell.at 15 rfl) rfl rfl ?_
      refine sw_getR (dX8_cell.at 16 rfl) fp_X8_65 (S_lt 0 (by decide)) (S_0 nw nx g) rfl rfl ?_
      refine sw_getIE (w := ((gN P : Nat) : Int)) (dX8_cell.at 17 rfl) fp_X8_103 (S_e_lt hnw) (S_e hnw) rfl (EL_N (EL_same hE (fun q hq => h_1.1 _ (by omega)))) ?_
      refine sw_callV (B' := B0) (As := [vi (((x : Nat) : Int)), vi (((kd : Nat) : Int)), vi (((gN P : Nat) : Int))]) (mc := 0) (ms := 0) (dX8_cell.at 18 rfl) lk_X8_241 (S_lt 7 (by decide)) (S_7 nw nx g) rfl rfl (Nat.le_of_ble_eq_true rfl) rfl (Nat.le_refl _) (Nat.le_refl _) ?_
      refine c_X0_membersWith (T := T) (x := x) (q0 := (gN P)) (kd := kd) (j := j + 3) hV h_1.2.2.2 hv.1 hv.2.1 hv.2.2.1 ?_
      replace hv := hv.2.2.2
      refine sw_callS (post' := post) (B' := B0) (As := [vl (((bitsU (pMem P T kd x) (gN P) : Nat) : Int))]) (mc := 0) (ms := 0) (dX8_cell.at 19 rfl) lk_X8_245 rfl rfl (Nat.le_of_ble_eq_true rfl) rfl (Nat.le_refl _) (Nat.le_refl _) ?_
      refine c_J13_numberOfTrailingZeros_95d88 (n := (bitsU (pMem P T kd x) (gN P))) (j := j + 4) hv.1 hv.2.1 ?_
      replace hv := hv.2.2
      exact sw_iret (dX8_cell.at 20 rfl) rfl (Nat.le_refl _) (Nat.le_refl _) hv
    · replace hv := hv.2 (bz_n1 q)
      refine sw_bipush (dX8_cell.at 7 rfl) (by decide) ?_
      exact sw_iret (dX8_cell.at 8 rfl) rfl (Nat.le_refl _) (Nat.le_refl _) hv

set_option maxHeartbeats 2000000 in
set_option maxRecDepth 20000 in
theorem g_X8_cell_0 {G : GG} {j nw nx gn : Nat} {g : Nat → Sh} {c : Nat → Nat → Int} {post : Option AV → AM → Prop} {x : Int} {kd : Int} {P : GD} {T : PT} (hnw : nw = 21 ∨ nw = 35) (hE : EL c nw P) (hV : GV P) (hT : HT P T) (hR : PR P T c) (hC : CR P T c)  (hv : (-2147483648 ≤ x ∧ x < 2147483648) ∧ ((((decide (0 ≤ x ∧ x < (gN P : Int))) = false) → post (some (vi ((-2)))) (S nw nx g, 78 + gn, c)) ∧ (((decide (0 ≤ x ∧ x < (gN P : Int))) = true) → (-2147483648 ≤ kd ∧ kd < 2147483648) ∧ ((((decide (0 ≤ kd ∧ kd < 3)) = true) → (∀ c_1 : Nat → Nat → Int, ((∀ a, a < 5 ∨ 8 < a → c_1 a = c a) ∧ PR P T c_1 ∧ CR P T c_1 ∧ CD P T c_1) → SW G (j + 6) mX8_cell 35 [some (vr (0)), some (vi (x)), some (vi (kd))] [vi (((gN P : Nat) : Int)), vi (kd), vi (x), vr (7)] (S nw nx g, 78 + gn, c_1) B0 post)) ∧ (((decide (0 ≤ kd ∧ kd < 3)) = false) → post (some (vi ((-2)))) (S nw nx g, 78 + gn, c)))))) :
    SW G (j + 6) mX8_cell 0 [some (vr (0)), some (vi (x)), some (vi (kd))] [] (S nw nx g, 78 + gn, c) B0 post := by
  refine sw_aload_n (dX8_cell.at 0 rfl) rfl rfl ?_
  refine sw_iload_n (dX8_cell.at 1 rfl) rfl rfl ?_
  refine sw_callV (B' := B0) (As := [vi (x)]) (mc := 0) (ms := 0) (dX8_cell.at 2 rfl) lk_X8_130 (S_lt 0 (by decide)) (S_0 nw nx g) rfl rfl (Nat.le_of_ble_eq_true rfl) rfl (Nat.le_refl _) (Nat.le_refl _) ?_
  refine c_X8_isElementP (x := x) (j := j + 5) hnw hE hV hv.1 ?_
  replace hv := hv.2
  refine sw_if_eq (tgt := 15) (dX8_cell.at 3 rfl) (by decide) (bz_rng _) (fun q => ?_) (fun q => ?_)
  · replace hv := hv.1 (bz_0 q)
    refine sw_bipush (dX8_cell.at 7 rfl) (by decide) ?_
    exact sw_iret (dX8_cell.at 8 rfl) rfl (Nat.le_refl _) (Nat.le_refl _) hv
  · replace hv := hv.2 (bz_n0 q)
    refine sw_iload_n (dX8_cell.at 4 rfl) rfl rfl ?_
    refine sw_callS (post' := post) (B' := B0) (As := [vi (kd)]) (mc := 0) (ms := 0) (dX8_cell.at 5 rfl) lk_X8_235 rfl rfl (Nat.le_of_ble_eq_true rfl) rfl (Nat.le_refl _) (Nat.le_refl _) ?_
    refine c_X8_isKind (x := kd) (j := j + 5) hv.1 ?_
    replace hv := hv.2
    refine sw_if_ne (tgt := 18) (dX8_cell.at 6 rfl) (by decide) (bz_rng _) (fun q => ?_) (fun q => ?_)
    · replace hv := hv.1 (bz_1 q)
      refine sw_aload_n (dX8_cell.at 9 rfl) rfl rfl ?_
      refine sw_callV (B' := B0) (As := []) (mc := 0) (ms := 0) (dX8_cell.at 10 rfl) lk_X8_238 (S_lt 0 (by decide)) (S_0 nw nx g) rfl rfl (Nat.le_of_ble_eq_true rfl) rfl (Nat.le_refl _) (Nat.le_refl _) ?_
      refine c_X8_prepareCells  (j := j + 0) hnw hE hV hT hR hC (fun c_1 h_1 => ?_)
      replace hv := hv c_1 h_1
      refine sw_aload_n (dX8_cell.at 11 rfl) rfl rfl ?_
      refine sw_getR (dX8_cell.at 12 rfl) fp_X8_33 (S_lt 0 (by decide)) (S_0 nw nx g) rfl rfl ?_
      refine sw_iload_n (dX8_cell.at 13 rfl) rfl rfl ?_
      refine sw_iload_n (dX8_cell.at 14 rfl) rfl rfl ?_
      refine sw_aload_n (dX8_cell.at 15 rfl) rfl rfl ?_
      refine sw_getR (dX8_cell.at 16 rfl) fp_X8_65 (S_lt 0 (by decide)) (S_0 nw nx g) rfl rfl ?_
      refine sw_getIE (w := ((gN P : Nat) : Int)) (dX8_cell.at 17 rfl) fp_X8_103 (S_e_lt hnw) (S_e hnw) rfl (EL_N (EL_same hE (fun q hq => h_1.1 _ (by omega)))) ?_
      exact hv
    · replace hv := hv.2 (bz_n1 q)
      refine sw_bipush (dX8_cell.at 7 rfl) (by decide) ?_
      exact sw_iret (dX8_cell.at 8 rfl) rfl (Nat.le_refl _) (Nat.le_refl _) hv

set_option maxHeartbeats 4000000 in
theorem c_X8_cell {G : GG} {j nw nx gn : Nat} {g : Nat → Sh} {c : Nat → Nat → Int} {post : Option AV → AM → Prop} {P : GD} {T : PT} {x kd : Int} (hnw : nw = 21 ∨ nw = 35) (hE : EL c nw P) (hV : GV P) (hT : HT P T) (hR : PR P T c) (hC : CR P T c) (p1 : -2147483648 ≤ x ∧ x < 2147483648) (p2 : -2147483648 ≤ kd ∧ kd < 2147483648) (K : ∀ c2 : Nat → Nat → Int, ((∀ a, a < 5 ∨ 8 < a → c2 a = c a) ∧ PR P T c2 ∧ CR P T c2) → post (some (vi (q_cell P T x kd))) (S nw nx g, 78 + gn, c2)) : SM G (j + 7) mX8_cell [vr (0), vi (x), vi (kd)] (S nw nx g, 78 + gn, c) 0 0 post := by
  refine sm_of wX8_cell rfl (Nat.le_of_ble_eq_true rfl) ?_
  have hN60 := GV_N hV
  have hR5 := GV_R hV
  by_cases hv : (0 ≤ x ∧ x < (gN P : Int)) ∧ 0 ≤ kd ∧ kd < 3
  · obtain ⟨x, rfl⟩ : ∃ n : Nat, x = (n : Int) := ⟨x.toNat, by omega⟩
    obtain ⟨kd, rfl⟩ : ∃ n : Nat, kd = (n : Int) := ⟨kd.toNat, by omega⟩
    have e : q_cell P T ((x : Nat) : Int) ((kd : Nat) : Int) = ((lsb (gMem P T kd x) : Nat) : Int) := by
      rw [q_cell, if_pos hv]
      simp only [Int.toNat_natCast]
    rw [e] at K
    have hx : x < gN P := by omega
    have g9 := gMem_ok (T := T) hV (kd := kd) hx
    rw [gMem] at g9
    refine g_X8_cell_0n hnw hE hV hT hR hC ?_
    refine ⟨?_, ⟨fun q => ?_, fun q => ⟨?_, ⟨fun q => fun c_1 h_1 => ⟨?_, ?_, ?_, ⟨?_, ?_, ?_⟩⟩, fun q => ?_⟩⟩⟩⟩
    all_goals first | omega | assumption | (exfalso; simp only [decide_eq_true_eq, decide_eq_false_iff_not] at *; omega) | exact K c_1 ⟨h_1.1, h_1.2.1, h_1.2.2.1⟩
  · have e : q_cell P T x kd = (-2) := by rw [q_cell, if_neg hv]
    rw [e] at K
    refine g_X8_cell_0 hnw hE hV hT hR hC ?_
    have K := K c ⟨fun _ _ => rfl, hR, hC⟩
    refine ⟨?_, ⟨fun q => ?_, fun q => ⟨?_, ⟨fun q => fun c_1 h_1 => ?_, fun q => ?_⟩⟩⟩⟩
    all_goals first | exact K | omega | assumption | (exfalso; simp only [decide_eq_true_eq, decide_eq_false_iff_not] at *; omega)

def q_under (P : GD) (T : PT) (x y kd : Int) : Int := if ((0 ≤ x ∧ x < (gN P : Int)) ∧ 0 ≤ y ∧ y < (gN P : Int)) ∧ 0 ≤ kd ∧ kd < 3 then bz ((RC P T kd.toNat y.toNat).testBit x.toNat) else (-2)
set_option maxHeartbeats 2000000 in
set_option maxRecDepth 20000 in
theorem g_X8_under_0n {G : GG} {j nw nx gn : Nat} {g : Nat → Sh} {c : Nat → Nat → Int} {post : Option AV → AM → Prop} {x : Nat} {y : Nat} {kd : Nat} {P : GD} {T : PT} (hnw : nw = 21 ∨ nw = 35) (hE : EL c nw P) (hV : GV P) (hT : HT P T) (hR : PR P T c) (hC : CR P T c)  (hv : (-2147483648 ≤ ((x : Nat) : Int) ∧ ((x : Nat) : Int) < 2147483648) ∧ (-2147483648 ≤ ((y : Nat) : Int) ∧ ((y : Nat) : Int) < 2147483648) ∧ ((((decide ((0 ≤ ((x : Nat) : Int) ∧ ((x : Nat) : Int) < (gN P : Int)) ∧ 0 ≤ ((y : Nat) : Int) ∧ ((y : Nat) : Int) < (gN P : Int))) = false) → post (some (vi ((-2)))) (S nw nx g, 78 + gn, c)) ∧ (((decide ((0 ≤ ((x : Nat) : Int) ∧ ((x : Nat) : Int) < (gN P : Int)) ∧ 0 ≤ ((y : Nat) : Int) ∧ ((y : Nat) : Int) < (gN P : Int))) = true) → (-2147483648 ≤ ((kd : Nat) : Int) ∧ ((kd : Nat) : Int) < 2147483648) ∧ ((((decide (0 ≤ ((kd : Nat) : Int) ∧ ((kd : Nat) : Int) < 3)) = true) → (∀ c_1 : Nat → Nat → Int, ((∀ a, a < 5 ∨ 8 < a → c_1 a = c a) ∧ PR P T c_1 ∧ CR P T c_1 ∧ CD P T c_1) → (y < gN P) ∧ (x < gN P) ∧ (kd < 3) ∧ (((((RC P T kd y).testBit x) = false) → post (some (vi (0))) (S nw nx g, 78 + gn, c_1)) ∧ ((((RC P T kd y).testBit x) = true) → post (some (vi (1))) (S nw nx g, 78 + gn, c_1))))) ∧ (((decide (0 ≤ ((kd : Nat) : Int) ∧ ((kd : Nat) : Int) < 3)) = false) → post (some (vi ((-2)))) (S nw nx g, 78 + gn, c)))))) :
    SW G (j + 6) mX8_under 0 [some (vr (0)), some (vi (((x : Nat) : Int))), some (vi (((y : Nat) : Int))), some (vi (((kd : Nat) : Int)))] [] (S nw nx g, 78 + gn, c) B0 post := by
  refine sw_aload_n (dX8_under.at 0 rfl) rfl rfl ?_
  refine sw_iload_n (dX8_under.at 1 rfl) rfl rfl ?_
  refine sw_iload_n (dX8_under.at 2 rfl) rfl rfl ?_
  refine sw_callV (B' := B0) (As := [vi (((x : Nat) : Int)), vi (((y : Nat) : Int))]) (mc := 0) (ms := 0) (dX8_under.at 3 rfl) lk_X8_157 (S_lt 0 (by decide)) (S_0 nw nx g) rfl rfl (Nat.le_of_ble_eq_true rfl) rfl (Nat.le_refl _) (Nat.le_refl _) ?_
  refine c_X8_arePair (x := ((x : Nat) : Int)) (y := ((y : Nat) : Int)) (j := j + 4) hnw hE hV hv.1 hv.2.1 ?_
  replace hv := hv.2.2
  refine sw_if_eq (tgt := 16) (dX8_under.at 4 rfl) (by decide) (bz_rng _) (fun q => ?_) (fun q => ?_)
  · replace hv := hv.1 (bz_0 q)
    refine sw_bipush (dX8_under.at 8 rfl) (by decide) ?_
    exact sw_iret (dX8_under.at 9 rfl) rfl (Nat.le_refl _) (Nat.le_refl _) hv
  · replace hv := hv.2 (bz_n0 q)
    refine sw_iload_n (dX8_under.at 5 rfl) rfl rfl ?_
    refine sw_callS (post' := post) (B' := B0) (As := [vi (((kd : Nat) : Int))]) (mc := 0) (ms := 0) (dX8_under.at 6 rfl) lk_X8_235 rfl rfl (Nat.le_of_ble_eq_true rfl) rfl (Nat.le_refl _) (Nat.le_refl _) ?_
    refine c_X8_isKind (x := ((kd : Nat) : Int)) (j := j + 5) hv.1 ?_
    replace hv := hv.2
    refine sw_if_ne (tgt := 19) (dX8_under.at 7 rfl) (by decide) (bz_rng _) (fun q => ?_) (fun q => ?_)
    · replace hv := hv.1 (bz_1 q)
      refine sw_aload_n (dX8_under.at 10 rfl) rfl rfl ?_
      refine sw_callV (B' := B0) (As := []) (mc := 0) (ms := 0) (dX8_under.at 11 rfl) lk_X8_238 (S_lt 0 (by decide)) (S_0 nw nx g) rfl rfl (Nat.le_of_ble_eq_true rfl) rfl (Nat.le_refl _) (Nat.le_refl _) ?_
      refine c_X8_prepareCells  (j := j + 0) hnw hE hV hT hR hC (fun c_1 h_1 => ?_)
      replace hv := hv c_1 h_1
      refine sw_aload_n (dX8_under.at 12 rfl) rfl rfl ?_
      refine sw_getR (dX8_under.at 13 rfl) fp_X8_33 (S_lt 0 (by decide)) (S_0 nw nx g) rfl rfl ?_
      refine sw_iload_n (dX8_under.at 14 rfl) rfl rfl ?_
      refine sw_iload_n (dX8_under.at 15 rfl) rfl rfl ?_
      refine sw_iload_n (dX8_under.at 16 rfl) rfl rfl ?_
      refine sw_callV (B' := B0) (As := [vi (((y : Nat) : Int)), vi (((x : Nat) : Int)), vi (((kd : Nat) : Int))]) (mc := 0) (ms := 0) (dX8_under.at 17 rfl) lk_X8_251 (S_lt 7 (by decide)) (S_7 nw nx g) rfl rfl (Nat.le_of_ble_eq_true rfl) rfl (Nat.le_refl _) (Nat.le_refl _) ?_
      refine c_X0_leads (T := T) (a := y) (b := x) (kd := kd) (j := j + 4) hV h_1.2.2.2 hv.1 hv.2.1 hv.2.2.1 ?_
      replace hv := hv.2.2.2
      refine sw_if_eq (tgt := 40) (dX8_under.at 18 rfl) (by decide) (bz_rng _) (fun q => ?_) (fun q => ?_)
      · replace hv := hv.1 (bz_0 q)
        refine sw_iconst (dX8_under.at 21 rfl) ?_
        exact sw_iret (dX8_under.at 22 rfl) rfl (Nat.le_refl _) (Nat.le_refl _) hv
      · replace hv := hv.2 (bz_n0 q)
        refine sw_iconst (dX8_under.at 19 rfl) ?_
        refine sw_goto (tgt := 41) (dX8_under.at 20 rfl) (by decide) ?_
        exact sw_iret (dX8_under.at 22 rfl) rfl (Nat.le_refl _) (Nat.le_refl _) hv
    · replace hv := hv.2 (bz_n1 q)
      refine sw_bipush (dX8_under.at 8 rfl) (by decide) ?_
      exact sw_iret (dX8_under.at 9 rfl) rfl (Nat.le_refl _) (Nat.le_refl _) hv

set_option maxHeartbeats 2000000 in
set_option maxRecDepth 20000 in
theorem g_X8_under_0 {G : GG} {j nw nx gn : Nat} {g : Nat → Sh} {c : Nat → Nat → Int} {post : Option AV → AM → Prop} {x : Int} {y : Int} {kd : Int} {P : GD} {T : PT} (hnw : nw = 21 ∨ nw = 35) (hE : EL c nw P) (hV : GV P) (hT : HT P T) (hR : PR P T c) (hC : CR P T c)  (hv : (-2147483648 ≤ x ∧ x < 2147483648) ∧ (-2147483648 ≤ y ∧ y < 2147483648) ∧ ((((decide ((0 ≤ x ∧ x < (gN P : Int)) ∧ 0 ≤ y ∧ y < (gN P : Int))) = false) → post (some (vi ((-2)))) (S nw nx g, 78 + gn, c)) ∧ (((decide ((0 ≤ x ∧ x < (gN P : Int)) ∧ 0 ≤ y ∧ y < (gN P : Int))) = true) → (-2147483648 ≤ kd ∧ kd < 2147483648) ∧ ((((decide (0 ≤ kd ∧ kd < 3)) = true) → (∀ c_1 : Nat → Nat → Int, ((∀ a, a < 5 ∨ 8 < a → c_1 a = c a) ∧ PR P T c_1 ∧ CR P T c_1 ∧ CD P T c_1) → SW G (j + 6) mX8_under 30 [some (vr (0)), some (vi (x)), some (vi (y)), some (vi (kd))] [vi (kd), vi (x), vi (y), vr (7)] (S nw nx g, 78 + gn, c_1) B0 post)) ∧ (((decide (0 ≤ kd ∧ kd < 3)) = false) → post (some (vi ((-2)))) (S nw nx g, 78 + gn, c)))))) :
    SW G (j + 6) mX8_under 0 [some (vr (0)), some (vi (x)), some (vi (y)), some (vi (kd))] [] (S nw nx g, 78 + gn, c) B0 post := by
  refine sw_aload_n (dX8_under.at 0 rfl) rfl rfl ?_
  refine sw_iload_n (dX8_under.at 1 rfl) rfl rfl ?_
  refine sw_iload_n (dX8_under.at 2 rfl) rfl rfl ?_
  refine sw_callV (B' := B0) (As := [vi (x), vi (y)]) (mc := 0) (ms := 0) (dX8_under.at 3 rfl) lk_X8_157 (S_lt 0 (by decide)) (S_0 nw nx g) rfl rfl (Nat.le_of_ble_eq_true rfl) rfl (Nat.le_refl _) (Nat.le_refl _) ?_
  refine c_X8_arePair (x := x) (y := y) (j := j + 4) hnw hE hV hv.1 hv.2.1 ?_
  replace hv := hv.2.2
  refine sw_if_eq (tgt := 16) (dX8_under.at 4 rfl) (by decide) (bz_rng _) (fun q => ?_) (fun q => ?_)
  · replace hv := hv.1 (bz_0 q)
    refine sw_bipush (dX8_under.at 8 rfl) (by decide) ?_
    exact sw_iret (dX8_under.at 9 rfl) rfl (Nat.le_refl _) (Nat.le_refl _) hv
  · replace hv := hv.2 (bz_n0 q)
    refine sw_iload_n (dX8_under.at 5 rfl) rfl rfl ?_
    refine sw_callS (post' := post) (B' := B0) (As := [vi (kd)]) (mc := 0) (ms := 0) (dX8_under.at 6 rfl) lk_X8_235 rfl rfl (Nat.le_of_ble_eq_true rfl) rfl (Nat.le_refl _) (Nat.le_refl _) ?_
    refine c_X8_isKind (x := kd) (j := j + 5) hv.1 ?_
    replace hv := hv.2
    refine sw_if_ne (tgt := 19) (dX8_under.at 7 rfl) (by decide) (bz_rng _) (fun q => ?_) (fun q => ?_)
    · replace hv := hv.1 (bz_1 q)
      refine sw_aload_n (dX8_under.at 10 rfl) rfl rfl ?_
      refine sw_callV (B' := B0) (As := []) (mc := 0) (ms := 0) (dX8_under.at 11 rfl) lk_X8_238 (S_lt 0 (by decide)) (S_0 nw nx g) rfl rfl (Nat.le_of_ble_eq_true rfl) rfl (Nat.le_refl _) (Nat.le_refl _) ?_
      refine c_X8_prepareCells  (j := j + 0) hnw hE hV hT hR hC (fun c_1 h_1 => ?_)
      replace hv := hv c_1 h_1
      refine sw_aload_n (dX8_under.at 12 rfl) rfl rfl ?_
      refine sw_getR (dX8_under.at 13 rfl) fp_X8_33 (S_lt 0 (by decide)) (S_0 nw nx g) rfl rfl ?_
      refine sw_iload_n (dX8_under.at 14 rfl) rfl rfl ?_
      refine sw_iload_n (dX8_under.at 15 rfl) rfl rfl ?_
      refine sw_iload_n (dX8_under.at 16 rfl) rfl rfl ?_
      exact hv
    · replace hv := hv.2 (bz_n1 q)
      refine sw_bipush (dX8_under.at 8 rfl) (by decide) ?_
      exact sw_iret (dX8_under.at 9 rfl) rfl (Nat.le_refl _) (Nat.le_refl _) hv

set_option maxHeartbeats 4000000 in
theorem c_X8_under {G : GG} {j nw nx gn : Nat} {g : Nat → Sh} {c : Nat → Nat → Int} {post : Option AV → AM → Prop} {P : GD} {T : PT} {x y kd : Int} (hnw : nw = 21 ∨ nw = 35) (hE : EL c nw P) (hV : GV P) (hT : HT P T) (hR : PR P T c) (hC : CR P T c) (p1 : -2147483648 ≤ x ∧ x < 2147483648) (p2 : -2147483648 ≤ y ∧ y < 2147483648) (p3 : -2147483648 ≤ kd ∧ kd < 2147483648) (K : ∀ c2 : Nat → Nat → Int, ((∀ a, a < 5 ∨ 8 < a → c2 a = c a) ∧ PR P T c2 ∧ CR P T c2) → post (some (vi (q_under P T x y kd))) (S nw nx g, 78 + gn, c2)) : SM G (j + 7) mX8_under [vr (0), vi (x), vi (y), vi (kd)] (S nw nx g, 78 + gn, c) 0 0 post := by
  refine sm_of wX8_under rfl (Nat.le_of_ble_eq_true rfl) ?_
  have hN60 := GV_N hV
  have hR5 := GV_R hV
  by_cases hv : ((0 ≤ x ∧ x < (gN P : Int)) ∧ 0 ≤ y ∧ y < (gN P : Int)) ∧ 0 ≤ kd ∧ kd < 3
  · obtain ⟨x, rfl⟩ : ∃ n : Nat, x = (n : Int) := ⟨x.toNat, by omega⟩
    obtain ⟨y, rfl⟩ : ∃ n : Nat, y = (n : Int) := ⟨y.toNat, by omega⟩
    obtain ⟨kd, rfl⟩ : ∃ n : Nat, kd = (n : Int) := ⟨kd.toNat, by omega⟩
    have e : q_under P T ((x : Nat) : Int) ((y : Nat) : Int) ((kd : Nat) : Int) = bz ((RC P T kd y).testBit x) := by
      rw [q_under, if_pos hv]
      simp only [Int.toNat_natCast]
    rw [e] at K
    refine g_X8_under_0n hnw hE hV hT hR hC ?_
    refine ⟨?_, ?_, ⟨fun q => ?_, fun q => ⟨?_, ⟨fun q => fun c_1 h_1 => ⟨?_, ?_, ?_, ⟨fun q => ?_, fun q => ?_⟩⟩, fun q => ?_⟩⟩⟩⟩
    all_goals first | omega | assumption | (exfalso; simp only [decide_eq_true_eq, decide_eq_false_iff_not] at *; omega) | (rw [show (RC P T kd y).testBit x = true from by assumption] at K; exact K c_1 ⟨h_1.1, h_1.2.1, h_1.2.2.1⟩) | (rw [show (RC P T kd y).testBit x = false from by assumption] at K; exact K c_1 ⟨h_1.1, h_1.2.1, h_1.2.2.1⟩)
  · have e : q_under P T x y kd = (-2) := by rw [q_under, if_neg hv]
    rw [e] at K
    refine g_X8_under_0 hnw hE hV hT hR hC ?_
    have K := K c ⟨fun _ _ => rfl, hR, hC⟩
    refine ⟨?_, ?_, ⟨fun q => ?_, fun q => ⟨?_, ⟨fun q => fun c_1 h_1 => ?_, fun q => ?_⟩⟩⟩⟩
    all_goals first | exact K | omega | assumption | (exfalso; simp only [decide_eq_true_eq, decide_eq_false_iff_not] at *; omega)

def pCm (P : GD) (T : PT) (kd : Nat) : Nat → Bool := fun z => decide (lsb (gMem P T kd z) = z)
set_option maxHeartbeats 2000000 in
set_option maxRecDepth 20000 in
theorem g_X8_cellMany_28 {G : GG} {j nw nx gn : Nat} {g : Nat → Sh} {c : Nat → Nat → Int} {post : Option AV → AM → Prop} {kd : Nat} {P : GD} {T : PT} {z : Nat} (hnw : nw = 21 ∨ nw = 35) (hE : EL c nw P) (hV : GV P) (hD : CD P T c)  (hv : (z < 2147483648) ∧ (gN P < 2147483648) ∧ (((gN P ≤ z) → post (some (vi (((cntU (pCm P T kd) z : Nat) : Int)))) (S nw nx g, 78 + gn, c)) ∧ ((¬ (gN P ≤ z)) → ((gN P) = gN P) ∧ (z < gN P) ∧ (kd < 3) ∧ ((0 < (bitsU (pMem P T kd z) (gN P))) ∧ ((bitsU (pMem P T kd z) (gN P)) < 2 ^ 63) ∧ ((lsb (bitsU (pMem P T kd z) (gN P)) < 2147483648) ∧ (z < 2147483648) ∧ (((lsb (bitsU (pMem P T kd z) (gN P)) ≠ z) → SW G (j + 6) mX8_cellMany 28 [some (vr (0)), some (vi (((kd : Nat) : Int))), some (vi (((cntU (pCm P T kd) z : Nat) : Int))), some (vi (((z + 1 : Nat) : Int)))] [] (S nw nx g, 78 + gn, c) B0 post) ∧ ((lsb (bitsU (pMem P T kd z) (gN P)) = z) → SW G (j + 6) mX8_cellMany 28 [some (vr (0)), some (vi (((kd : Nat) : Int))), some (vi ((((cntU (pCm P T kd) z) + 1 : Nat) : Int))), some (vi (((z + 1 : Nat) : Int)))] [] (S nw nx g, 78 + gn, c) B0 post))))))) :
    SW G (j + 6) mX8_cellMany 28 [some (vr (0)), some (vi (((kd : Nat) : Int))), some (vi (((cntU (pCm P T kd) z : Nat) : Int))), some (vi (((z : Nat) : Int)))] [] (S nw nx g, 78 + gn, c) B0 post := by
  refine sw_iload_n (dX8_cellMany.at 15 rfl) rfl rfl ?_
  refine sw_aload_n (dX8_cellMany.at 16 rfl) rfl rfl ?_
  refine sw_getR (dX8_cellMany.at 17 rfl) fp_X8_65 (S_lt 0 (by decide)) (S_0 nw nx g) rfl rfl ?_
  refine sw_getIE (w := ((gN P : Nat) : Int)) (dX8_cellMany.at 18 rfl) fp_X8_103 (S_e_lt hnw) (S_e hnw) rfl (EL_N hE) ?_
  refine sw_icmpN_ge z (gN P) (tgt := 71) (dX8_cellMany.at 19 rfl) (by decide) hv.1 hv.2.1 (fun q => ?_) (fun q => ?_)
  · replace hv := hv.2.2.1 q
    refine sw_iload_n (dX8_cellMany.at 34 rfl) rfl rfl ?_
    exact sw_iret (dX8_cellMany.at 35 rfl) rfl (Nat.le_refl _) (Nat.le_refl _) hv
  · replace hv := hv.2.2.2 q
    refine sw_aload_n (dX8_cellMany.at 20 rfl) rfl rfl ?_
    refine sw_getR (dX8_cellMany.at 21 rfl) fp_X8_33 (S_lt 0 (by decide)) (S_0 nw nx g) rfl rfl ?_
    refine sw_iload_n (dX8_cellMany.at 22 rfl) rfl rfl ?_
    refine sw_iload_n (dX8_cellMany.at 23 rfl) rfl rfl ?_
    refine sw_aload_n (dX8_cellMany.at 24 rfl) rfl rfl ?_
    refine sw_getR (dX8_cellMany.at 25 rfl) fp_X8_65 (S_lt 0 (by decide)) (S_0 nw nx g) rfl rfl ?_
    refine sw_getIE (w := ((gN P : Nat) : Int)) (dX8_cellMany.at 26 rfl) fp_X8_103 (S_e_lt hnw) (S_e hnw) rfl (EL_N hE) ?_
    refine sw_callV (B' := B0) (As := [vi (((z : Nat) : Int)), vi (((kd : Nat) : Int)), vi (((gN P : Nat) : Int))]) (mc := 0) (ms := 0) (dX8_cellMany.at 27 rfl) lk_X8_241 (S_lt 7 (by decide)) (S_7 nw nx g) rfl rfl (Nat.le_of_ble_eq_true rfl) rfl (Nat.le_refl _) (Nat.le_refl _) ?_
    refine c_X0_membersWith (T := T) (x := z) (q0 := (gN P)) (kd := kd) (j := j + 3) hV hD hv.1 hv.2.1 hv.2.2.1 ?_
    replace hv := hv.2.2.2
    refine sw_callS (post' := post) (B' := B0) (As := [vl (((bitsU (pMem P T kd z) (gN P) : Nat) : Int))]) (mc := 0) (ms := 0) (dX8_cellMany.at 28 rfl) lk_X8_245 rfl rfl (Nat.le_of_ble_eq_true rfl) rfl (Nat.le_refl _) (Nat.le_refl _) ?_
    refine c_J13_numberOfTrailingZeros_95d88 (n := (bitsU (pMem P T kd z) (gN P))) (j := j + 4) hv.1 hv.2.1 ?_
    replace hv := hv.2.2
    refine sw_iload_n (dX8_cellMany.at 29 rfl) rfl rfl ?_
    refine sw_icmpN_ne (lsb (bitsU (pMem P T kd z) (gN P))) z (tgt := 65) (dX8_cellMany.at 30 rfl) (by decide) hv.1 hv.2.1 (fun q => ?_) (fun q => ?_)
    · replace hv := hv.2.2.1 q
      refine sw_iinc (lo' := [some (vr (0)), some (vi (((kd : Nat) : Int))), some (vi (((cntU (pCm P T kd) z : Nat) : Int))), some (vi (((z + 1 : Nat) : Int)))]) (dX8_cellMany.at 32 rfl) rfl (by decide) rfl ?_
      refine sw_goto (tgt := 28) (dX8_cellMany.at 33 rfl) (by decide) ?_
      exact hv
    · replace hv := hv.2.2.2 q
      refine sw_iinc (lo' := [some (vr (0)), some (vi (((kd : Nat) : Int))), some (vi ((((cntU (pCm P T kd) z) + 1 : Nat) : Int))), some (vi (((z : Nat) : Int)))]) (dX8_cellMany.at 31 rfl) rfl (by decide) rfl ?_
      refine sw_iinc (lo' := [some (vr (0)), some (vi (((kd : Nat) : Int))), some (vi ((((cntU (pCm P T kd) z) + 1 : Nat) : Int))), some (vi (((z + 1 : Nat) : Int)))]) (dX8_cellMany.at 32 rfl) rfl (by decide) rfl ?_
      refine sw_goto (tgt := 28) (dX8_cellMany.at 33 rfl) (by decide) ?_
      exact hv

set_option maxHeartbeats 2000000 in
theorem lp_X8_cellMany_28 {G : GG} {j nw nx gn : Nat} {g : Nat → Sh} {c : Nat → Nat → Int} {post : Option AV → AM → Prop} {P : GD} {T : PT} {kd : Nat} (hnw : nw = 21 ∨ nw = 35) (hE : EL c nw P) (hV : GV P) (hD : CD P T c) (hkd : kd < 3) (K : post (some (vi (((cntU (pCm P T kd) (gN P) : Nat) : Int)))) (S nw nx g, 78 + gn, c)) : ∀ k z : Nat, z + k = gN P → SW G (j + 6) mX8_cellMany 28 [some (vr (0)), some (vi (((kd : Nat) : Int))), some (vi (((cntU (pCm P T kd) z : Nat) : Int))), some (vi (((z : Nat) : Int)))] [] (S nw nx g, 78 + gn, c) B0 post := by
  intro k
  induction k with
  | zero =>
    intro z hx
    refine g_X8_cellMany_28 hnw hE hV hD ?_
    have h60 := GV_N hV
    have g9 := fun h => gMem_ok (T := T) hV (kd := kd) (x := z) h
    have l9 := fun h => isL_lt (lsb_is (g9 h).1 (Nat.lt_trans (g9 h).2 (by decide))) (g9 h).2
    simp only [gMem] at g9 l9
    have hx2 : z = gN P := by omega
    subst hx2
    refine ⟨?_, ?_, ⟨fun q => ?_, fun q => ⟨?_, ?_, ?_, ⟨?_, ?_, ⟨?_, ?_, ⟨fun q => ?_, fun q => ?_⟩⟩⟩⟩⟩⟩
    all_goals first | exact K | omega | (exfalso; omega)
  | succ k ih =>
    intro z hx
    refine g_X8_cellMany_28 hnw hE hV hD ?_
    have h60 := GV_N hV
    have g9 := fun h => gMem_ok (T := T) hV (kd := kd) (x := z) h
    have l9 := fun h => isL_lt (lsb_is (g9 h).1 (Nat.lt_trans (g9 h).2 (by decide))) (g9 h).2
    simp only [gMem] at g9 l9
    have hi := ih (z + 1) (by omega)
    simp only [cntU, pCm, gMem] at hi
    refine ⟨?_, ?_, ⟨fun q => ?_, fun q => ⟨?_, ?_, ?_, ⟨?_, ?_, ⟨?_, ?_, ⟨fun q => ?_, fun q => ?_⟩⟩⟩⟩⟩⟩
    all_goals first | omega | (exfalso; omega) | assumption | exact hi | exact (g9 (by omega)).1 | exact (g9 (by omega)).2 | (have := l9 (by omega); omega) | (simp only [*, if_true, if_false, ite_true, ite_false, Bool.false_eq_true, and_true, true_and, and_false, false_and, Bool.and_true, Bool.and_false, Bool.true_and, Bool.false_and, decide_true, decide_false] at hi; exact hi) | (simp only [*, if_true, if_false, ite_true, ite_false, Bool.false_eq_true, and_true, true_and, and_false, false_and, Bool.and_true, Bool.and_false, Bool.true_and, Bool.false_and, decide_true, decide_false] at hi ⊢; exact hi)

def q_cellMany (P : GD) (T : PT) (kd : Int) : Int := if 0 < gN P ∧ 0 ≤ kd ∧ kd < 3 then ((cntU (pCm P T kd.toNat) (gN P) : Nat) : Int) else (-2)
set_option maxHeartbeats 2000000 in
set_option maxRecDepth 20000 in
theorem g_X8_cellMany_0n {G : GG} {j nw nx gn : Nat} {g : Nat → Sh} {c : Nat → Nat → Int} {post : Option AV → AM → Prop} {kd : Nat} {P : GD} {T : PT} (hnw : nw = 21 ∨ nw = 35) (hE : EL c nw P) (hV : GV P) (hT : HT P T) (hR : PR P T c) (hC : CR P T c)  (hv : (gN P < 2147483648) ∧ (((gN P = 0) → post (some (vi ((-2)))) (S nw nx g, 78 + gn, c)) ∧ ((¬ (gN P = 0)) → (-2147483648 ≤ ((kd : Nat) : Int) ∧ ((kd : Nat) : Int) < 2147483648) ∧ ((((decide (0 ≤ ((kd : Nat) : Int) ∧ ((kd : Nat) : Int) < 3)) = true) → (∀ c_1 : Nat → Nat → Int, ((∀ a, a < 5 ∨ 8 < a → c_1 a = c a) ∧ PR P T c_1 ∧ CR P T c_1 ∧ CD P T c_1) → SW G (j + 6) mX8_cellMany 28 [some (vr (0)), some (vi (((kd : Nat) : Int))), some (vi (0)), some (vi (0))] [] (S nw nx g, 78 + gn, c_1) B0 post)) ∧ (((decide (0 ≤ ((kd : Nat) : Int) ∧ ((kd : Nat) : Int) < 3)) = false) → post (some (vi ((-2)))) (S nw nx g, 78 + gn, c)))))) :
    SW G (j + 6) mX8_cellMany 0 [some (vr (0)), some (vi (((kd : Nat) : Int))), none, none] [] (S nw nx g, 78 + gn, c) B0 post := by
  refine sw_aload_n (dX8_cellMany.at 0 rfl) rfl rfl ?_
  refine sw_getR (dX8_cellMany.at 1 rfl) fp_X8_65 (S_lt 0 (by decide)) (S_0 nw nx g) rfl rfl ?_
  refine sw_getIE (w := ((gN P : Nat) : Int)) (dX8_cellMany.at 2 rfl) fp_X8_103 (S_e_lt hnw) (S_e hnw) rfl (EL_N hE) ?_
  refine sw_ifN_eq (gN P) (tgt := 17) (dX8_cellMany.at 3 rfl) (by decide) hv.1 (fun q => ?_) (fun q => ?_)
  · replace hv := hv.2.1 q
    refine sw_bipush (dX8_cellMany.at 7 rfl) (by decide) ?_
    exact sw_iret (dX8_cellMany.at 8 rfl) rfl (Nat.le_refl _) (Nat.le_refl _) hv
  · replace hv := hv.2.2 q
    refine sw_iload_n (dX8_cellMany.at 4 rfl) rfl rfl ?_
    refine sw_callS (post' := post) (B' := B0) (As := [vi (((kd : Nat) : Int))]) (mc := 0) (ms := 0) (dX8_cellMany.at 5 rfl) lk_X8_235 rfl rfl (Nat.le_of_ble_eq_true rfl) rfl (Nat.le_refl _) (Nat.le_refl _) ?_
    refine c_X8_isKind (x := ((kd : Nat) : Int)) (j := j + 5) hv.1 ?_
    replace hv := hv.2
    refine sw_if_ne (tgt := 20) (dX8_cellMany.at 6 rfl) (by decide) (bz_rng _) (fun q => ?_) (fun q => ?_)
    · replace hv := hv.1 (bz_1 q)
      refine sw_aload_n (dX8_cellMany.at 9 rfl) rfl rfl ?_
      refine sw_callV (B' := B0) (As := []) (mc := 0) (ms := 0) (dX8_cellMany.at 10 rfl) lk_X8_238 (S_lt 0 (by decide)) (S_0 nw nx g) rfl rfl (Nat.le_of_ble_eq_true rfl) rfl (Nat.le_refl _) (Nat.le_refl _) ?_
      refine c_X8_prepareCells  (j := j + 0) hnw hE hV hT hR hC (fun c_1 h_1 => ?_)
      replace hv := hv c_1 h_1
      refine sw_iconst (dX8_cellMany.at 11 rfl) ?_
      refine sw_istore_n (lo' := [some (vr (0)), some (vi (((kd : Nat) : Int))), some (vi (0)), none]) (dX8_cellMany.at 12 rfl) rfl (by decide) rfl ?_
      refine sw_iconst (dX8_cellMany.at 13 rfl) ?_
      refine sw_istore_n (lo' := [some (vr (0)), some (vi (((kd : Nat) : Int))), some (vi (0)), some (vi (0))]) (dX8_cellMany.at 14 rfl) rfl (by decide) rfl ?_
      exact hv
    · replace hv := hv.2 (bz_n1 q)
      refine sw_bipush (dX8_cellMany.at 7 rfl) (by decide) ?_
      exact sw_iret (dX8_cellMany.at 8 rfl) rfl (Nat.le_refl _) (Nat.le_refl _) hv

set_option maxHeartbeats 2000000 in
set_option maxRecDepth 20000 in
theorem g_X8_cellMany_0 {G : GG} {j nw nx gn : Nat} {g : Nat → Sh} {c : Nat → Nat → Int} {post : Option AV → AM → Prop} {kd : Int} {P : GD} {T : PT} (hnw : nw = 21 ∨ nw = 35) (hE : EL c nw P) (hV : GV P) (hT : HT P T) (hR : PR P T c) (hC : CR P T c)  (hv : (gN P < 2147483648) ∧ (((gN P = 0) → post (some (vi ((-2)))) (S nw nx g, 78 + gn, c)) ∧ ((¬ (gN P = 0)) → (-2147483648 ≤ kd ∧ kd < 2147483648) ∧ ((((decide (0 ≤ kd ∧ kd < 3)) = true) → (∀ c_1 : Nat → Nat → Int, ((∀ a, a < 5 ∨ 8 < a → c_1 a = c a) ∧ PR P T c_1 ∧ CR P T c_1 ∧ CD P T c_1) → SW G (j + 6) mX8_cellMany 28 [some (vr (0)), some (vi (kd)), some (vi (0)), some (vi (0))] [] (S nw nx g, 78 + gn, c_1) B0 post)) ∧ (((decide (0 ≤ kd ∧ kd < 3)) = false) → post (some (vi ((-2)))) (S nw nx g, 78 + gn, c)))))) :
    SW G (j + 6) mX8_cellMany 0 [some (vr (0)), some (vi (kd)), none, none] [] (S nw nx g, 78 + gn, c) B0 post := by
  refine sw_aload_n (dX8_cellMany.at 0 rfl) rfl rfl ?_
  refine sw_getR (dX8_cellMany.at 1 rfl) fp_X8_65 (S_lt 0 (by decide)) (S_0 nw nx g) rfl rfl ?_
  refine sw_getIE (w := ((gN P : Nat) : Int)) (dX8_cellMany.at 2 rfl) fp_X8_103 (S_e_lt hnw) (S_e hnw) rfl (EL_N hE) ?_
  refine sw_ifN_eq (gN P) (tgt := 17) (dX8_cellMany.at 3 rfl) (by decide) hv.1 (fun q => ?_) (fun q => ?_)
  · replace hv := hv.2.1 q
    refine sw_bipush (dX8_cellMany.at 7 rfl) (by decide) ?_
    exact sw_iret (dX8_cellMany.at 8 rfl) rfl (Nat.le_refl _) (Nat.le_refl _) hv
  · replace hv := hv.2.2 q
    refine sw_iload_n (dX8_cellMany.at 4 rfl) rfl rfl ?_
    refine sw_callS (post' := post) (B' := B0) (As := [vi (kd)]) (mc := 0) (ms := 0) (dX8_cellMany.at 5 rfl) lk_X8_235 rfl rfl (Nat.le_of_ble_eq_true rfl) rfl (Nat.le_refl _) (Nat.le_refl _) ?_
    refine c_X8_isKind (x := kd) (j := j + 5) hv.1 ?_
    replace hv := hv.2
    refine sw_if_ne (tgt := 20) (dX8_cellMany.at 6 rfl) (by decide) (bz_rng _) (fun q => ?_) (fun q => ?_)
    · replace hv := hv.1 (bz_1 q)
      refine sw_aload_n (dX8_cellMany.at 9 rfl) rfl rfl ?_
      refine sw_callV (B' := B0) (As := []) (mc := 0) (ms := 0) (dX8_cellMany.at 10 rfl) lk_X8_238 (S_lt 0 (by decide)) (S_0 nw nx g) rfl rfl (Nat.le_of_ble_eq_true rfl) rfl (Nat.le_refl _) (Nat.le_refl _) ?_
      refine c_X8_prepareCells  (j := j + 0) hnw hE hV hT hR hC (fun c_1 h_1 => ?_)
      replace hv := hv c_1 h_1
      refine sw_iconst (dX8_cellMany.at 11 rfl) ?_
      refine sw_istore_n (lo' := [some (vr (0)), some (vi (kd)), some (vi (0)), none]) (dX8_cellMany.at 12 rfl) rfl (by decide) rfl ?_
      refine sw_iconst (dX8_cellMany.at 13 rfl) ?_
      refine sw_istore_n (lo' := [some (vr (0)), some (vi (kd)), some (vi (0)), some (vi (0))]) (dX8_cellMany.at 14 rfl) rfl (by decide) rfl ?_
      exact hv
    · replace hv := hv.2 (bz_n1 q)
      refine sw_bipush (dX8_cellMany.at 7 rfl) (by decide) ?_
      exact sw_iret (dX8_cellMany.at 8 rfl) rfl (Nat.le_refl _) (Nat.le_refl _) hv

set_option maxHeartbeats 4000000 in
theorem c_X8_cellMany {G : GG} {j nw nx gn : Nat} {g : Nat → Sh} {c : Nat → Nat → Int} {post : Option AV → AM → Prop} {P : GD} {T : PT} {kd : Int} (hnw : nw = 21 ∨ nw = 35) (hE : EL c nw P) (hV : GV P) (hT : HT P T) (hR : PR P T c) (hC : CR P T c) (p1 : -2147483648 ≤ kd ∧ kd < 2147483648) (K : ∀ c2 : Nat → Nat → Int, ((∀ a, a < 5 ∨ 8 < a → c2 a = c a) ∧ PR P T c2 ∧ CR P T c2) → post (some (vi (q_cellMany P T kd))) (S nw nx g, 78 + gn, c2)) : SM G (j + 7) mX8_cellMany [vr (0), vi (kd)] (S nw nx g, 78 + gn, c) 0 0 post := by
  refine sm_of wX8_cellMany rfl (Nat.le_of_ble_eq_true rfl) ?_
  have hN60 := GV_N hV
  have hR5 := GV_R hV
  by_cases hv : 0 < gN P ∧ 0 ≤ kd ∧ kd < 3
  · obtain ⟨kd, rfl⟩ : ∃ n : Nat, kd = (n : Int) := ⟨kd.toNat, by omega⟩
    have e : q_cellMany P T ((kd : Nat) : Int) = ((cntU (pCm P T kd) (gN P) : Nat) : Int) := by
      rw [q_cellMany, if_pos hv]
      simp only [Int.toNat_natCast]
    rw [e] at K
    refine g_X8_cellMany_0n hnw hE hV hT hR hC ?_
    refine ⟨?_, ⟨fun q => ?_, fun q => ⟨?_, ⟨fun q => fun c_1 h_1 => ?_, fun q => ?_⟩⟩⟩⟩
    all_goals first | omega | assumption | (exfalso; simp only [decide_eq_true_eq, decide_eq_false_iff_not] at *; omega) | exact lp_X8_cellMany_28 hnw (EL_same hE (fun q hq => h_1.1 _ (by omega))) hV h_1.2.2.2 (by omega) (K c_1 ⟨h_1.1, h_1.2.1, h_1.2.2.1⟩) (gN P) 0 (by omega)
  · have e : q_cellMany P T kd = (-2) := by rw [q_cellMany, if_neg hv]
    rw [e] at K
    refine g_X8_cellMany_0 hnw hE hV hT hR hC ?_
    have K := K c ⟨fun _ _ => rfl, hR, hC⟩
    refine ⟨?_, ⟨fun q => ?_, fun q => ⟨?_, ⟨fun q => fun c_1 h_1 => ?_, fun q => ?_⟩⟩⟩⟩
    all_goals first | exact K | omega | assumption | (exfalso; simp only [decide_eq_true_eq, decide_eq_false_iff_not] at *; omega)

