set_option maxHeartbeats 4000000 in
theorem lt_24 {G : GG} {j nw nx gn : Nat} {g : Nat → Sh} {c : Nat → Nat → Int} {post : Option AV → AM → Prop} {P : GD} {l : Nat} {F s : Nat → Int} {A : Nat → Nat → Int} (hM : ML c P) (hV : GV P) (hC : GC P) (hs : hSi P) (hl : l < gR P) (hF : ∀ q k, q < gN P → k < 14 → F (14 * q + k) = A q k) (hA : ∀ q k, 13 ≤ k → A q k = 0) (hb : ∀ q k, -9223372036854775808 ≤ A q k ∧ A q k < 9223372036854775808) (K : ∀ H : Nat → Int, (∀ q r, q < gN P → r < 14 → H (14 * q + r) = hkS P l A q r) → SW G (j + 1) mX9_timesLetter 181 [some (vr (49)), some (vi (((l : Nat) : Int))), some (vi (0)), none, none, none, none] [] (S nw nx g, 78 + gn, (wr (wr (wr c 69 F) 70 H) 61 s)) B0 post) : ∀ (k x : Nat) (H : Nat → Int), x + k = gN P → (∀ q r, q < gN P → r < 14 → H (14 * q + r) = sumN (fun a => sumN (con P l A q r a) 14) x) → SW G (j + 1) mX9_timesLetter 24 [some (vr (49)), some (vi (((l : Nat) : Int))), some (vi (((x : Nat) : Int))), none, none, none, none] [] (S nw nx g, 78 + gn, (wr (wr (wr c 69 F) 70 H) 61 s)) B0 post := by
  have h60 := GV_N hV
  intro k
  induction k with
  | zero =>
    intro x H hx hH
    have e : x = gN P := by omega
    subst e
    have K2 := K H (fun q r hq hr => by rw [hH q r hq hr, con_all hC hV hs hl hq hr])
    refine g_X9_timesLetter_24 hM hV ?_
    refine ⟨?_, ?_, ⟨fun q => ?_, fun q => ⟨?_, ?_, ?_⟩⟩⟩
    all_goals first | omega | exact K2 | (exfalso; omega)
  | succ k ih =>
    intro x H hx hH
    have n9 := lt_46 (G := G) (j := j) (nw := nw) (nx := nx) (gn := gn) (g := g) (post := post) (s := s) hM hV hC hs hl (show x < gN P by omega) (fun k hk => hF x k (by omega) hk) (hA x) (hb x) (fun H h => ih (x + 1) H (by omega) h) 14 0 H (by omega) (fun q r hq hr => by rw [hH q r hq hr]; exact (Int.add_zero _).symm)
    refine g_X9_timesLetter_24 hM hV ?_
    refine ⟨?_, ?_, ⟨fun q => ?_, fun q => ⟨?_, ?_, ?_⟩⟩⟩
    all_goals first | omega | (exfalso; omega) | exact n9
theorem lt_2 {G : GG} {j nw nx gn : Nat} {g : Nat → Sh} {c : Nat → Nat → Int} {post : Option AV → AM → Prop} {l : Nat} {F s : Nat → Int} (K : ∀ H : Nat → Int, (∀ q, q < 840 → H q = 0) → SW G (j + 1) mX9_timesLetter 24 [some (vr (49)), some (vi (((l : Nat) : Int))), some (vi (0)), none, none, none, none] [] (S nw nx g, 78 + gn, (wr (wr (wr c 69 F) 70 H) 61 s)) B0 post) : ∀ (k x : Nat) (H : Nat → Int), x + k = 840 → (∀ q, q < x → H q = 0) → SW G (j + 1) mX9_timesLetter 2 [some (vr (49)), some (vi (((l : Nat) : Int))), some (vi (((x : Nat) : Int))), none, none, none, none] [] (S nw nx g, 78 + gn, (wr (wr (wr c 69 F) 70 H) 61 s)) B0 post := by
  intro k
  induction k with
  | zero =>
    intro x H hx hH
    have K2 := K H (fun q hq => hH q (by omega))
    refine g_X9_timesLetter_2 ?_
    refine ⟨?_, ⟨fun q => ?_, fun q => ⟨?_, ?_⟩⟩⟩
    all_goals first | omega | exact K2 | (exfalso; omega)
  | succ k ih =>
    intro x H hx hH
    have n9 := ih (x + 1) (u1 H x 0) (by omega) (fun q hq => by
      by_cases e : q = x
      · rw [e, u1_eq]
      · rw [u1_ne e]; exact hH q (by omega))
    refine g_X9_timesLetter_2 ?_
    refine ⟨?_, ⟨fun q => ?_, fun q => ⟨?_, ?_⟩⟩⟩
    all_goals first | omega | (exfalso; omega) | exact n9
theorem lt_181 {G : GG} {j nw nx gn : Nat} {g : Nat → Sh} {c : Nat → Nat → Int} {post : Option AV → AM → Prop} {l : Nat} {H s : Nat → Int} (K : ∀ F : Nat → Int, (∀ q, q < 840 → F q = H q) → post none (S nw nx g, 78 + gn, (wr (wr (wr c 69 F) 70 H) 61 s))) : ∀ (k x : Nat) (F : Nat → Int), x + k = 840 → (∀ q, q < x → F q = H q) → SW G (j + 1) mX9_timesLetter 181 [some (vr (49)), some (vi (((l : Nat) : Int))), some (vi (((x : Nat) : Int))), none, none, none, none] [] (S nw nx g, 78 + gn, (wr (wr (wr c 69 F) 70 H) 61 s)) B0 post := by
  intro k
  induction k with
  | zero =>
    intro x F hx hF
    have K2 := K F (fun q hq => hF q (by omega))
    refine g_X9_timesLetter_181 ?_
    refine ⟨?_, ⟨fun q => ?_, fun q => ⟨?_, ⟨?_, ?_⟩⟩⟩⟩
    all_goals first | omega | exact K2 | (exfalso; omega)
  | succ k ih =>
    intro x F hx hF
    have n9 := ih (x + 1) (u1 F x (H x)) (by omega) (fun q hq => by
      by_cases e : q = x
      · rw [e, u1_eq]
      · rw [u1_ne e]; exact hF q (by omega))
    refine g_X9_timesLetter_181 ?_
    refine ⟨?_, ⟨fun q => ?_, fun q => ⟨?_, ⟨?_, ?_⟩⟩⟩⟩
    all_goals first | omega | (exfalso; omega) | exact n9
theorem c_X9_timesLetter {G : GG} {j nw nx gn : Nat} {g : Nat → Sh} {c : Nat → Nat → Int} {post : Option AV → AM → Prop} {P : GD} {l : Nat} {F H s : Nat → Int} {A : Nat → Nat → Int} (hM : ML c P) (hV : GV P) (hC : GC P) (hs : hSi P) (hl : l < gR P) (hF : ∀ q k, q < gN P → k < 14 → F (14 * q + k) = A q k) (hA : ∀ q k, 13 ≤ k → A q k = 0) (hb : ∀ q k, -9223372036854775808 ≤ A q k ∧ A q k < 9223372036854775808) (K : ∀ F H : Nat → Int, (∀ q r, q < gN P → r < 14 → F (14 * q + r) = hkS P l A q r) → post none (S nw nx g, 78 + gn, (wr (wr (wr c 69 F) 70 H) 61 s))) : SM G (j + 2) mX9_timesLetter [vr 49, vi ((l : Nat) : Int)] (S nw nx g, 78 + gn, (wr (wr (wr c 69 F) 70 H) 61 s)) 0 0 post := by
  refine sm_of wX9_timesLetter rfl (Nat.le_of_ble_eq_true rfl) ?_
  have h60 := GV_N hV
  exact g_X9_timesLetter_0 (lt_2 (fun H h0 => lt_24 hM hV hC hs hl hF hA hb (fun H2 h2 => lt_181 (fun F2 h3 => K F2 H2 (fun q r hq hr => by rw [h3 _ (by omega), h2 q r hq hr])) 840 0 F (by omega) (fun q hq => by omega)) (gN P) 0 H (by omega) (fun q r hq hr => by rw [h0 _ (by omega)]; rfl)) 840 0 H (by omega) (fun q hq => by omega))

set_option maxHeartbeats 2000000 in
set_option maxRecDepth 20000 in
theorem g_X9_hecke_79 {G : GG} {j nw nx gn : Nat} {g : Nat → Sh} {c : Nat → Nat → Int} {post : Option AV → AM → Prop} {v : Nat} {w : Nat} {z : Nat} {k : Nat} {P : GD} {F : Nat → Int} {H : Nat → Int} {s : Nat → Int} {i : Nat} {A : Nat → Nat → Int} (hM : ML c P) (hV : GV P) (hC : GC P) (hs : hSi P) (hl13 : gL P w ≤ 13) (hW : ∀ i, i < gL P w → s i = ((gLet P w i : Nat) : Int))  (hv : (w < gN P) ∧ ((i < 2147483648) ∧ (gL P w < 2147483648) ∧ (((gL P w ≤ i) → (k < 2147483648) ∧ (((14 ≤ k) → post (some (vi (0))) (S nw nx g, 78 + gn, (wr (wr (wr c 69 F) 70 H) 61 s))) ∧ ((¬ (14 ≤ k)) → ((14 * z) + k < 840) ∧ (post (some (vi (F ((14 * z) + k)))) (S nw nx g, 78 + gn, (wr (wr (wr c 69 F) 70 H) 61 s)))))) ∧ ((¬ (gL P w ≤ i)) → (i < gL P w) ∧ (((gLet P w i) < gR P) ∧ (∀ q k, q < gN P → k < 14 → F (14 * q + k) = A q k) ∧ (∀ q k, 13 ≤ k → A q k = 0) ∧ (∀ q k, -9223372036854775808 ≤ A q k ∧ A q k < 9223372036854775808) ∧ (∀ s_1 w_1 : Nat → Int, (∀ q r, q < gN P → r < 14 → s_1 (14 * q + r) = hkS P (gLet P w i) A q r) → SW G (j + 2) mX9_hecke 79 [some (vr (49)), some (vi (((v : Nat) : Int))), some (vi (((w : Nat) : Int))), some (vi (((z : Nat) : Int))), some (vi (((k : Nat) : Int))), some (vi (((i + 1 : Nat) : Int)))] [] (S nw nx g, 78 + gn, (wr (wr (wr c 69 s_1) 70 w_1) 61 s)) B0 post)))))) :
    SW G (j + 2) mX9_hecke 79 [some (vr (49)), some (vi (((v : Nat) : Int))), some (vi (((w : Nat) : Int))), some (vi (((z : Nat) : Int))), some (vi (((k : Nat) : Int))), some (vi (((i : Nat) : Int)))] [] (S nw nx g, 78 + gn, (wr (wr (wr c 69 F) 70 H) 61 s)) B0 post := by
  refine sw_iload (dX9_hecke_0.at 40 rfl) rfl ?_
  refine sw_aload_n (dX9_hecke_0.at 41 rfl) rfl rfl ?_
  refine sw_getR (dX9_hecke_0.at 42 rfl) fp_X9_32 (S_lt 49 (by decide)) (S_49 nw nx g) rfl rfl ?_
  refine sw_iload_n (dX9_hecke_0.at 43 rfl) rfl rfl ?_
  refine sw_ialdN w (w := ((gL P w : Nat) : Int)) (dX9_hecke_0.at 44 rfl) (S_lt 56 (by decide)) (S_56 nw nx g) (by decide) (GV_lt hV hv.1) (ML_L (ML_SC hM (SC_wr (SC_wr (SC_wr SC_rf (a := 69) (f := F) (by decide)) (a := 70) (f := H) (by decide)) (a := 61) (f := s) (by decide))) hv.1) ?_
  replace hv := hv.2
  refine sw_icmpN_ge i (gL P w) (tgt := 107) (dX9_hecke_0.at 45 rfl) (by decide) hv.1 hv.2.1 (fun q => ?_) (fun q => ?_)
  · replace hv := hv.2.2.1 q
    refine sw_iload (dX9_hecke_1.at 4 rfl) rfl ?_
    refine sw_bipush (dX9_hecke_1.at 5 rfl) (by decide) ?_
    refine sw_icmpN_ge k 14 (tgt := 130) (dX9_hecke_1.at 6 rfl) (by decide) hv.1 (by decide) (fun q => ?_) (fun q => ?_)
    · replace hv := hv.2.1 q
      refine sw_iconst (dX9_hecke_1.at 17 rfl) ?_
      exact sw_iret (dX9_hecke_1.at 18 rfl) rfl (Nat.le_refl _) (Nat.le_refl _) hv
    · replace hv := hv.2.2 q
      refine sw_aload_n (dX9_hecke_1.at 7 rfl) rfl rfl ?_
      refine sw_getR (dX9_hecke_1.at 8 rfl) fp_X9_74 (S_lt 49 (by decide)) (S_49 nw nx g) rfl rfl ?_
      refine sw_bipush (dX9_hecke_1.at 9 rfl) (by decide) ?_
      refine sw_iload_n (dX9_hecke_1.at 10 rfl) rfl rfl ?_
      refine sw_imul (dX9_hecke_1.at 11 rfl) ?_
      refine sw_topI (y := ((14 * z : Nat) : Int)) (by first | rfl | (congr 1)) ?_
      refine sw_iload (dX9_hecke_1.at 12 rfl) rfl ?_
      refine sw_iadd (dX9_hecke_1.at 13 rfl) ?_
      refine sw_topI (y := (((14 * z) + k : Nat) : Int)) (by first | rfl | (congr 1)) ?_
      refine sw_laldN ((14 * z) + k) (w := F ((14 * z) + k)) (dX9_hecke_1.at 14 rfl) (S_lt 69 (by decide)) (S_69 nw nx g) (by decide) hv.1 rfl ?_
      replace hv := hv.2
      refine sw_l2i (dX9_hecke_1.at 15 rfl) ?_
      refine sw_goto (tgt := 131) (dX9_hecke_1.at 16 rfl) (by decide) ?_
      exact sw_iret (dX9_hecke_1.at 18 rfl) rfl (Nat.le_refl _) (Nat.le_refl _) hv
  · replace hv := hv.2.2.2 q
    refine sw_aload_n (dX9_hecke_0.at 46 rfl) rfl rfl ?_
    refine sw_aload_n (dX9_hecke_0.at 47 rfl) rfl rfl ?_
    refine sw_getR (dX9_hecke_0.at 48 rfl) fp_X9_47 (S_lt 49 (by decide)) (S_49 nw nx g) rfl rfl ?_
    refine sw_iload (dX9_hecke_0.at 49 rfl) rfl ?_
    refine sw_ialdN i (w := ((gLet P w i : Nat) : Int)) (dX9_hecke_1.at 0 rfl) (S_lt 61 (by decide)) (S_61 nw nx g) (by decide) (by have := hl13; omega) (hW _ hv.1) ?_
    replace hv := hv.2
    refine sw_callV (B' := B0) (As := [vi (((gLet P w i : Nat) : Int))]) (mc := 0) (ms := 0) (dX9_hecke_1.at 1 rfl) lk_X9_372 (S_lt 49 (by decide)) (S_49 nw nx g) rfl rfl (Nat.le_of_ble_eq_true rfl) rfl (Nat.le_refl _) (Nat.le_refl _) ?_
    refine c_X9_timesLetter (A := A) (F := F) (H := H) (s := s) (l := (gLet P w i)) (j := j + 0) hM hV hC hs hv.1 hv.2.1 hv.2.2.1 hv.2.2.2.1 (fun s_1 w_1 h_1 => ?_)
    replace hv := hv.2.2.2.2 s_1 w_1 h_1
    refine sw_iinc (lo' := [some (vr (49)), some (vi (((v : Nat) : Int))), some (vi (((w : Nat) : Int))), some (vi (((z : Nat) : Int))), some (vi (((k : Nat) : Int))), some (vi (((i + 1 : Nat) : Int)))]) (dX9_hecke_1.at 2 rfl) rfl (by decide) rfl ?_
    refine sw_goto (tgt := 79) (dX9_hecke_1.at 3 rfl) (by decide) ?_
    exact hv

set_option maxHeartbeats 2000000 in
set_option maxRecDepth 20000 in
theorem g_X9_hecke_36 {G : GG} {j nw nx gn : Nat} {g : Nat → Sh} {c : Nat → Nat → Int} {post : Option AV → AM → Prop} {v : Nat} {w : Nat} {z : Nat} {k : Nat} {P : GD} {F : Nat → Int} {H : Nat → Int} {s : Nat → Int} {i : Nat} (hM : ML c P) (hV : GV P) (hC : GC P)  (hv : (i < 2147483648) ∧ (((840 ≤ i) → (w < gN P) ∧ (∀ s_1 : Nat → Int, (∀ i, i < gL P w → s_1 i = ((gLet P w i : Nat) : Int)) → SW G (j + 2) mX9_hecke 79 [some (vr (49)), some (vi (((v : Nat) : Int))), some (vi (((w : Nat) : Int))), some (vi (((z : Nat) : Int))), some (vi (((k : Nat) : Int))), some (vi (0))] [] (S nw nx g, 78 + gn, (wr (wr (wr c 69 F) 70 H) 61 s_1)) B0 post)) ∧ ((¬ (840 ≤ i)) → (i < 2147483648) ∧ (14 * v < 2147483648) ∧ (((i ≠ 14 * v) → (i < 840) ∧ (SW G (j + 2) mX9_hecke 36 [some (vr (49)), some (vi (((v : Nat) : Int))), some (vi (((w : Nat) : Int))), some (vi (((z : Nat) : Int))), some (vi (((k : Nat) : Int))), some (vi (((i + 1 : Nat) : Int)))] [] (S nw nx g, 78 + gn, (wr (wr (wr c 69 (u1 F i 0)) 70 H) 61 s)) B0 post)) ∧ ((i = 14 * v) → (i < 840) ∧ (SW G (j + 2) mX9_hecke 36 [some (vr (49)), some (vi (((v : Nat) : Int))), some (vi (((w : Nat) : Int))), some (vi (((z : Nat) : Int))), some (vi (((k : Nat) : Int))), some (vi (((i + 1 : Nat) : Int)))] [] (S nw nx g, 78 + gn, (wr (wr (wr c 69 (u1 F i 1)) 70 H) 61 s)) B0 post)))))) :
    SW G (j + 2) mX9_hecke 36 [some (vr (49)), some (vi (((v : Nat) : Int))), some (vi (((w : Nat) : Int))), some (vi (((z : Nat) : Int))), some (vi (((k : Nat) : Int))), some (vi (((i : Nat) : Int)))] [] (S nw nx g, 78 + gn, (wr (wr (wr c 69 F) 70 H) 61 s)) B0 post := by
  refine sw_iload (dX9_hecke_0.at 18 rfl) rfl ?_
  refine sw_sipush (dX9_hecke_0.at 19 rfl) (by decide) ?_
  refine sw_icmpN_ge i 840 (tgt := 71) (dX9_hecke_0.at 20 rfl) (by decide) hv.1 (by decide) (fun q => ?_) (fun q => ?_)
  · replace hv := hv.2.1 q
    refine sw_aload_n (dX9_hecke_0.at 35 rfl) rfl rfl ?_
    refine sw_iload_n (dX9_hecke_0.at 36 rfl) rfl rfl ?_
    refine sw_callV (B' := B0) (As := [vi (((w : Nat) : Int))]) (mc := 0) (ms := 0) (dX9_hecke_0.at 37 rfl) lk_X9_234 (S_lt 49 (by decide)) (S_49 nw nx g) rfl rfl (Nat.le_of_ble_eq_true rfl) rfl (Nat.le_refl _) (Nat.le_refl _) ?_
    refine c_X9_spellsW (c := (wr (wr c 69 F) 70 H)) (s := s) (x := w) (j := j + 1) (ML_SC hM (SC_wr (SC_wr SC_rf (a := 69) (f := F) (by decide)) (a := 70) (f := H) (by decide))) hV hC hv.1 (fun s_1 h_1 => ?_)
    replace hv := hv.2 s_1 h_1
    refine sw_iconst (dX9_hecke_0.at 38 rfl) ?_
    refine sw_istore (lo' := [some (vr (49)), some (vi (((v : Nat) : Int))), some (vi (((w : Nat) : Int))), some (vi (((z : Nat) : Int))), some (vi (((k : Nat) : Int))), some (vi (0))]) (dX9_hecke_0.at 39 rfl) (by decide) rfl ?_
    exact hv
  · replace hv := hv.2.2 q
    refine sw_aload_n (dX9_hecke_0.at 21 rfl) rfl rfl ?_
    refine sw_getR (dX9_hecke_0.at 22 rfl) fp_X9_74 (S_lt 49 (by decide)) (S_49 nw nx g) rfl rfl ?_
    refine sw_iload (dX9_hecke_0.at 23 rfl) rfl ?_
    refine sw_iload (dX9_hecke_0.at 24 rfl) rfl ?_
    refine sw_bipush (dX9_hecke_0.at 25 rfl) (by decide) ?_
    refine sw_iload_n (dX9_hecke_0.at 26 rfl) rfl rfl ?_
    refine sw_imul (dX9_hecke_0.at 27 rfl) ?_
    refine sw_topI (y := ((14 * v : Nat) : Int)) (by first | rfl | (congr 1)) ?_
    refine sw_icmpN_ne i (14 * v) (tgt := 63) (dX9_hecke_0.at 28 rfl) (by decide) hv.1 hv.2.1 (fun q => ?_) (fun q => ?_)
    · replace hv := hv.2.2.1 q
      refine sw_lconst (z := 0) (dX9_hecke_0.at 31 rfl) (by decide) ?_
      refine sw_lastN i (dX9_hecke_0.at 32 rfl) (S_lt 69 (by decide)) (S_69 nw nx g) (by decide) hv.1 ?_
      refine SW.cg (M' := (S nw nx g, 78 + gn, (wr (wr (wr c 69 (u1 F i 0)) 70 H) 61 s))) (congrArg (fun m => (S nw nx g, 78 + gn, m)) ((wr_up_in (wr (wr c 69 F) 70 H) 61 s 69 i 0 (by decide)).trans (congrArg (fun m => wr m 61 s) ((wr_up_in (wr c 69 F) 70 H 69 i 0 (by decide)).trans (congrArg (fun m => wr m 70 H) (wr_up c 69 F i 0)))))) ?_
      replace hv := hv.2
      refine sw_iinc (lo' := [some (vr (49)), some (vi (((v : Nat) : Int))), some (vi (((w : Nat) : Int))), some (vi (((z : Nat) : Int))), some (vi (((k : Nat) : Int))), some (vi (((i + 1 : Nat) : Int)))]) (dX9_hecke_0.at 33 rfl) rfl (by decide) rfl ?_
      refine sw_goto (tgt := 36) (dX9_hecke_0.at 34 rfl) (by decide) ?_
      exact hv
    · replace hv := hv.2.2.2 q
      refine sw_lconst (z := 1) (dX9_hecke_0.at 29 rfl) (by decide) ?_
      refine sw_goto (tgt := 64) (dX9_hecke_0.at 30 rfl) (by decide) ?_
      refine sw_lastN i (dX9_hecke_0.at 32 rfl) (S_lt 69 (by decide)) (S_69 nw nx g) (by decide) hv.1 ?_
      refine SW.cg (M' := (S nw nx g, 78 + gn, (wr (wr (wr c 69 (u1 F i 1)) 70 H) 61 s))) (congrArg (fun m => (S nw nx g, 78 + gn, m)) ((wr_up_in (wr (wr c 69 F) 70 H) 61 s 69 i 1 (by decide)).trans (congrArg (fun m => wr m 61 s) ((wr_up_in (wr c 69 F) 70 H 69 i 1 (by decide)).trans (congrArg (fun m => wr m 70 H) (wr_up c 69 F i 1)))))) ?_
      replace hv := hv.2
      refine sw_iinc (lo' := [some (vr (49)), some (vi (((v : Nat) : Int))), some (vi (((w : Nat) : Int))), some (vi (((z : Nat) : Int))), some (vi (((k : Nat) : Int))), some (vi (((i + 1 : Nat) : Int)))]) (dX9_hecke_0.at 33 rfl) rfl (by decide) rfl ?_
      refine sw_goto (tgt := 36) (dX9_hecke_0.at 34 rfl) (by decide) ?_
      exact hv

set_option maxHeartbeats 4000000 in
theorem le_79 {G : GG} {j nw nx gn : Nat} {g : Nat → Sh} {c : Nat → Nat → Int} {post : Option AV → AM → Prop} {P : GD} {v w z k : Nat} {s : Nat → Int} (hM : ML c P) (hV : GV P) (hC : GC P) (hs : hSi P) (hl13 : gL P w ≤ 13) (hW : ∀ i, i < gL P w → s i = ((gLet P w i : Nat) : Int)) (hw : w < gN P) (hz : z < gN P) (hk : k < 2147483648) (K : ∀ F H : Nat → Int, post (some (vi (if k < 14 then hkA P v w (gL P w) z k else 0))) (S nw nx g, 78 + gn, (wr (wr (wr c 69 F) 70 H) 61 s))) : ∀ (t i : Nat) (F H : Nat → Int), i + t = gL P w → (∀ q r, q < gN P → r < 14 → F (14 * q + r) = hkA P v w i q r) → SW G (j + 2) mX9_hecke 79 [some (vr (49)), some (vi (((v : Nat) : Int))), some (vi (((w : Nat) : Int))), some (vi (((z : Nat) : Int))), some (vi (((k : Nat) : Int))), some (vi (((i : Nat) : Int)))] [] (S nw nx g, 78 + gn, (wr (wr (wr c 69 F) 70 H) 61 s)) B0 post := by
  have h60 := GV_N hV
  intro t
  induction t with
  | zero =>
    intro i F H hi hF
    have e : i = gL P w := by omega
    subst e
    have K2 := K F H
    refine g_X9_hecke_79 (A := fun _ _ => 0) hM hV hC hs hl13 hW ?_
    by_cases h14 : k < 14
    · rw [if_pos h14, ← hF z k hz h14] at K2
      refine ⟨?_, ⟨?_, ?_, ⟨fun q => ⟨?_, ⟨fun q => ?_, fun q => ⟨?_, ?_⟩⟩⟩, fun q => ⟨?_, ⟨?_, ?_, ?_, ?_, fun s_1 w_1 h_1 => ?_⟩⟩⟩⟩⟩
      all_goals first | omega | exact K2 | (exfalso; omega)
    · rw [if_neg h14] at K2
      refine ⟨?_, ⟨?_, ?_, ⟨fun q => ⟨?_, ⟨fun q => ?_, fun q => ⟨?_, ?_⟩⟩⟩, fun q => ⟨?_, ⟨?_, ?_, ?_, ?_, fun s_1 w_1 h_1 => ?_⟩⟩⟩⟩⟩
      all_goals first | omega | exact K2 | (exfalso; omega)
  | succ t ih =>
    intro i F H hi hF
    have a1 := gLet_lt hV hw (i := i)
    have a2 := fun q k (h : 13 ≤ k) => hkA_deg (P := P) (v := v) (w := w) i q k (by omega)
    have a3 := fun q k => hkA_rng (P := P) (v := v) (w := w) (i := i) (by omega) q k
    refine g_X9_hecke_79 (A := hkA P v w i) hM hV hC hs hl13 hW ?_
    refine ⟨?_, ⟨?_, ?_, ⟨fun q => ⟨?_, ⟨fun q => ?_, fun q => ⟨?_, ?_⟩⟩⟩, fun q => ⟨?_, ⟨?_, ?_, ?_, ?_, fun s_1 w_1 h_1 => ?_⟩⟩⟩⟩⟩
    all_goals first | omega | assumption | (exfalso; omega) | exact ih (i + 1) _ _ (by omega) h_1
def iQ (v : Nat) : Nat → Nat → (Nat → Int) → Nat → Int
  | 0, _, F => F
  | k + 1, x, F => iQ v k (x + 1) (u1 F x (if x = 14 * v then 1 else 0))
theorem iQ_at (v : Nat) : ∀ k x F y, iQ v k x F y = if x ≤ y ∧ y < x + k then (if y = 14 * v then 1 else 0) else F y := by
  intro k
  induction k with
  | zero => intro x F y; rw [iQ, if_neg (by omega)]
  | succ k ih =>
    intro x F y
    rw [iQ, ih]
    by_cases h : x + 1 ≤ y ∧ y < x + 1 + k
    · rw [if_pos h, if_pos (show x ≤ y ∧ y < x + (k + 1) by omega)]
    · rw [if_neg h]
      by_cases e : y = x
      · subst e; rw [u1_eq, if_pos (show y ≤ y ∧ y < y + (k + 1) by omega)]
      · rw [u1_ne e, if_neg (by omega)]
set_option maxHeartbeats 4000000 in
theorem le_36 {G : GG} {j nw nx gn : Nat} {g : Nat → Sh} {c : Nat → Nat → Int} {post : Option AV → AM → Prop} {P : GD} {v w z k : Nat} {H s : Nat → Int} (hM : ML c P) (hV : GV P) (hC : GC P) (hv : v < gN P) (hw : w < gN P) : ∀ (t i : Nat) (F : Nat → Int), i + t = 840 → (∀ s2 : Nat → Int, (∀ i, i < gL P w → s2 i = ((gLet P w i : Nat) : Int)) → SW G (j + 2) mX9_hecke 79 [some (vr (49)), some (vi (((v : Nat) : Int))), some (vi (((w : Nat) : Int))), some (vi (((z : Nat) : Int))), some (vi (((k : Nat) : Int))), some (vi (0))] [] (S nw nx g, 78 + gn, (wr (wr (wr c 69 (iQ v t i F)) 70 H) 61 s2)) B0 post) → SW G (j + 2) mX9_hecke 36 [some (vr (49)), some (vi (((v : Nat) : Int))), some (vi (((w : Nat) : Int))), some (vi (((z : Nat) : Int))), some (vi (((k : Nat) : Int))), some (vi (((i : Nat) : Int)))] [] (S nw nx g, 78 + gn, (wr (wr (wr c 69 F) 70 H) 61 s)) B0 post := by
  have h60 := GV_N hV
  intro t
  induction t with
  | zero =>
    intro i F hi K
    rw [iQ] at K
    refine g_X9_hecke_36 hM hV hC ?_
    refine ⟨?_, ⟨fun q => ⟨?_, fun s_1 h_1 => ?_⟩, fun q => ⟨?_, ?_, ⟨fun q => ⟨?_, ?_⟩, fun q => ⟨?_, ?_⟩⟩⟩⟩⟩
    all_goals first | omega | assumption | exact K _ h_1 | (exfalso; omega)
  | succ t ih =>
    intro i F hi K
    rw [iQ] at K
    refine g_X9_hecke_36 hM hV hC ?_
    refine ⟨?_, ⟨fun q => ⟨?_, fun s_1 h_1 => ?_⟩, fun q => ⟨?_, ?_, ⟨fun q => ⟨?_, ?_⟩, fun q => ⟨?_, ?_⟩⟩⟩⟩⟩
    all_goals first | omega | (exfalso; omega) | assumption | (rw [if_pos (by assumption)] at K; exact ih _ _ (by omega) K) | (rw [if_neg (by assumption)] at K; exact ih _ _ (by omega) K)
theorem he_eq {P : GD} (hC : GC P) (hV : GV P) (hs : hSi P) {v w z k : Nat} (hw : w < gN P) (hz : z < gN P) : heF P v w z k = if k < 14 then hkA P v w (gL P w) z k else 0 := by
  have l9 := (hV.2.2.1 w hw).1
  rw [heF]
  by_cases h : k < 14
  · rw [if_pos (by omega), if_pos h, exF_hk hC hV hs hw _ l9 z k hz (by omega)]
  · rw [if_neg h]
    split
    · rw [exF_hk hC hV hs hw _ l9 z k hz (by omega)]; exact hkA_deg _ _ _ (by omega)
    · rfl

set_option maxHeartbeats 2000000 in
set_option maxRecDepth 20000 in
theorem g_X9_hecke_0n {G : GG} {j nw nx gn : Nat} {g : Nat → Sh} {c : Nat → Nat → Int} {post : Option AV → AM → Prop} {v : Nat} {w : Nat} {o : Nat} {k : Nat} {P : GD} (hM : ML c P) (hV : GV P) (hC : GC P) (hs : hSi P)  (hv : (-2147483648 ≤ ((v : Nat) : Int) ∧ ((v : Nat) : Int) < 2147483648) ∧ ((((decide (0 ≤ ((v : Nat) : Int) ∧ ((v : Nat) : Int) < (gN P : Int))) = false) → post (some (vi ((-1000000)))) (S nw nx g, 78 + gn, c)) ∧ (((decide (0 ≤ ((v : Nat) : Int) ∧ ((v : Nat) : Int) < (gN P : Int))) = true) → (-2147483648 ≤ ((w : Nat) : Int) ∧ ((w : Nat) : Int) < 2147483648) ∧ ((((decide (0 ≤ ((w : Nat) : Int) ∧ ((w : Nat) : Int) < (gN P : Int))) = false) → post (some (vi ((-1000000)))) (S nw nx g, 78 + gn, c)) ∧ (((decide (0 ≤ ((w : Nat) : Int) ∧ ((w : Nat) : Int) < (gN P : Int))) = true) → (-2147483648 ≤ ((o : Nat) : Int) ∧ ((o : Nat) : Int) < 2147483648) ∧ ((((decide (0 ≤ ((o : Nat) : Int) ∧ ((o : Nat) : Int) < (gN P : Int))) = false) → post (some (vi ((-1000000)))) (S nw nx g, 78 + gn, c)) ∧ (((decide (0 ≤ ((o : Nat) : Int) ∧ ((o : Nat) : Int) < (gN P : Int))) = true) → (k < 2147483648) ∧ (((0 ≤ ((k : Nat) : Int)) → SW G (j + 2) mX9_hecke 36 [some (vr (49)), some (vi (((v : Nat) : Int))), some (vi (((w : Nat) : Int))), some (vi (((o : Nat) : Int))), some (vi (((k : Nat) : Int))), some (vi (0))] [] (S nw nx g, 78 + gn, c) B0 post) ∧ ((¬ (0 ≤ ((k : Nat) : Int))) → post (some (vi ((-1000000)))) (S nw nx g, 78 + gn, c)))))))))) :
    SW G (j + 2) mX9_hecke 0 [some (vr (49)), some (vi (((v : Nat) : Int))), some (vi (((w : Nat) : Int))), some (vi (((o : Nat) : Int))), some (vi (((k : Nat) : Int))), none] [] (S nw nx g, 78 + gn, c) B0 post := by
  refine sw_aload_n (dX9_hecke_0.at 0 rfl) rfl rfl ?_
  refine sw_iload_n (dX9_hecke_0.at 1 rfl) rfl rfl ?_
  refine sw_callV (B' := B0) (As := [vi (((v : Nat) : Int))]) (mc := 0) (ms := 0) (dX9_hecke_0.at 2 rfl) lk_X9_251 (S_lt 49 (by decide)) (S_49 nw nx g) rfl rfl (Nat.le_of_ble_eq_true rfl) rfl (Nat.le_refl _) (Nat.le_refl _) ?_
  refine c_X9_isElement (x := ((v : Nat) : Int)) (j := j + 0) hM hV hv.1 ?_
  replace hv := hv.2
  refine sw_if_eq (tgt := 29) (dX9_hecke_0.at 3 rfl) (by decide) (bz_rng _) (fun q => ?_) (fun q => ?_)
  · replace hv := hv.1 (bz_0 q)
    refine sw_ldcw (z := (-1000000)) (dX9_hecke_0.at 14 rfl) kc_X9_318 (by decide) ?_
    exact sw_iret (dX9_hecke_0.at 15 rfl) rfl (Nat.le_refl _) (Nat.le_refl _) hv
  · replace hv := hv.2 (bz_n0 q)
    refine sw_aload_n (dX9_hecke_0.at 4 rfl) rfl rfl ?_
    refine sw_iload_n (dX9_hecke_0.at 5 rfl) rfl rfl ?_
    refine sw_callV (B' := B0) (As := [vi (((w : Nat) : Int))]) (mc := 0) (ms := 0) (dX9_hecke_0.at 6 rfl) lk_X9_251 (S_lt 49 (by decide)) (S_49 nw nx g) rfl rfl (Nat.le_of_ble_eq_true rfl) rfl (Nat.le_refl _) (Nat.le_refl _) ?_
    refine c_X9_isElement (x := ((w : Nat) : Int)) (j := j + 0) hM hV hv.1 ?_
    replace hv := hv.2
    refine sw_if_eq (tgt := 29) (dX9_hecke_0.at 7 rfl) (by decide) (bz_rng _) (fun q => ?_) (fun q => ?_)
    · replace hv := hv.1 (bz_0 q)
      refine sw_ldcw (z := (-1000000)) (dX9_hecke_0.at 14 rfl) kc_X9_318 (by decide) ?_
      exact sw_iret (dX9_hecke_0.at 15 rfl) rfl (Nat.le_refl _) (Nat.le_refl _) hv
    · replace hv := hv.2 (bz_n0 q)
      refine sw_aload_n (dX9_hecke_0.at 8 rfl) rfl rfl ?_
      refine sw_iload_n (dX9_hecke_0.at 9 rfl) rfl rfl ?_
      refine sw_callV (B' := B0) (As := [vi (((o : Nat) : Int))]) (mc := 0) (ms := 0) (dX9_hecke_0.at 10 rfl) lk_X9_251 (S_lt 49 (by decide)) (S_49 nw nx g) rfl rfl (Nat.le_of_ble_eq_true rfl) rfl (Nat.le_refl _) (Nat.le_refl _) ?_
      refine c_X9_isElement (x := ((o : Nat) : Int)) (j := j + 0) hM hV hv.1 ?_
      replace hv := hv.2
      refine sw_if_eq (tgt := 29) (dX9_hecke_0.at 11 rfl) (by decide) (bz_rng _) (fun q => ?_) (fun q => ?_)
      · replace hv := hv.1 (bz_0 q)
        refine sw_ldcw (z := (-1000000)) (dX9_hecke_0.at 14 rfl) kc_X9_318 (by decide) ?_
        exact sw_iret (dX9_hecke_0.at 15 rfl) rfl (Nat.le_refl _) (Nat.le_refl _) hv
      · replace hv := hv.2 (bz_n0 q)
        refine sw_iload (dX9_hecke_0.at 12 rfl) rfl ?_
        refine sw_if_ge (tgt := 33) (dX9_hecke_0.at 13 rfl) (by decide) (nrng hv.1) (fun q => ?_) (fun q => ?_)
        · replace hv := hv.2.1 q
          refine sw_iconst (dX9_hecke_0.at 16 rfl) ?_
          refine sw_istore (lo' := [some (vr (49)), some (vi (((v : Nat) : Int))), some (vi (((w : Nat) : Int))), some (vi (((o : Nat) : Int))), some (vi (((k : Nat) : Int))), some (vi (0))]) (dX9_hecke_0.at 17 rfl) (by decide) rfl ?_
          exact hv
        · replace hv := hv.2.2 q
          refine sw_ldcw (z := (-1000000)) (dX9_hecke_0.at 14 rfl) kc_X9_318 (by decide) ?_
          exact sw_iret (dX9_hecke_0.at 15 rfl) rfl (Nat.le_refl _) (Nat.le_refl _) hv

set_option maxHeartbeats 2000000 in
set_option maxRecDepth 20000 in
theorem g_X9_hecke_0 {G : GG} {j nw nx gn : Nat} {g : Nat → Sh} {c : Nat → Nat → Int} {post : Option AV → AM → Prop} {v : Int} {w : Int} {o : Int} {k : Int} {P : GD} (hM : ML c P) (hV : GV P) (hC : GC P) (hs : hSi P)  (hv : (-2147483648 ≤ v ∧ v < 2147483648) ∧ ((((decide (0 ≤ v ∧ v < (gN P : Int))) = false) → post (some (vi ((-1000000)))) (S nw nx g, 78 + gn, c)) ∧ (((decide (0 ≤ v ∧ v < (gN P : Int))) = true) → (-2147483648 ≤ w ∧ w < 2147483648) ∧ ((((decide (0 ≤ w ∧ w < (gN P : Int))) = false) → post (some (vi ((-1000000)))) (S nw nx g, 78 + gn, c)) ∧ (((decide (0 ≤ w ∧ w < (gN P : Int))) = true) → (-2147483648 ≤ o ∧ o < 2147483648) ∧ ((((decide (0 ≤ o ∧ o < (gN P : Int))) = false) → post (some (vi ((-1000000)))) (S nw nx g, 78 + gn, c)) ∧ (((decide (0 ≤ o ∧ o < (gN P : Int))) = true) → (-2147483648 ≤ k ∧ k < 2147483648) ∧ (((0 ≤ k) → SW G (j + 2) mX9_hecke 36 [some (vr (49)), some (vi (v)), some (vi (w)), some (vi (o)), some (vi (k)), some (vi (0))] [] (S nw nx g, 78 + gn, c) B0 post) ∧ ((¬ (0 ≤ k)) → post (some (vi ((-1000000)))) (S nw nx g, 78 + gn, c)))))))))) :
    SW G (j + 2) mX9_hecke 0 [some (vr (49)), some (vi (v)), some (vi (w)), some (vi (o)), some (vi (k)), none] [] (S nw nx g, 78 + gn, c) B0 post := by
  refine sw_aload_n (dX9_hecke_0.at 0 rfl) rfl rfl ?_
  refine sw_iload_n (dX9_hecke_0.at 1 rfl) rfl rfl ?_
  refine sw_callV (B' := B0) (As := [vi (v)]) (mc := 0) (ms := 0) (dX9_hecke_0.at 2 rfl) lk_X9_251 (S_lt 49 (by decide)) (S_49 nw nx g) rfl rfl (Nat.le_of_ble_eq_true rfl) rfl (Nat.le_refl _) (Nat.le_refl _) ?_
  refine c_X9_isElement (x := v) (j := j + 0) hM hV hv.1 ?_
  replace hv := hv.2
  refine sw_if_eq (tgt := 29) (dX9_hecke_0.at 3 rfl) (by decide) (bz_rng _) (fun q => ?_) (fun q => ?_)
  · replace hv := hv.1 (bz_0 q)
    refine sw_ldcw (z := (-1000000)) (dX9_hecke_0.at 14 rfl) kc_X9_318 (by decide) ?_
    exact sw_iret (dX9_hecke_0.at 15 rfl) rfl (Nat.le_refl _) (Nat.le_refl _) hv
  · replace hv := hv.2 (bz_n0 q)
    refine sw_aload_n (dX9_hecke_0.at 4 rfl) rfl rfl ?_
    refine sw_iload_n (dX9_hecke_0.at 5 rfl) rfl rfl ?_
    refine sw_callV (B' := B0) (As := [vi (w)]) (mc := 0) (ms := 0) (dX9_hecke_0.at 6 rfl) lk_X9_251 (S_lt 49 (by decide)) (S_49 nw nx g) rfl rfl (Nat.le_of_ble_eq_true rfl) rfl (Nat.le_refl _) (Nat.le_refl _) ?_
    refine c_X9_isElement (x := w) (j := j + 0) hM hV hv.1 ?_
    replace hv := hv.2
    refine sw_if_eq (tgt := 29) (dX9_hecke_0.at 7 rfl) (by decide) (bz_rng _) (fun q => ?_) (fun q => ?_)
    · replace hv := hv.1 (bz_0 q)
      refine sw_ldcw (z := (-1000000)) (dX9_hecke_0.at 14 rfl) kc_X9_318 (by decide) ?_
      exact sw_iret (dX9_hecke_0.at 15 rfl) rfl (Nat.le_refl _) (Nat.le_refl _) hv
    · replace hv := hv.2 (bz_n0 q)
      refine sw_aload_n (dX9_hecke_0.at 8 rfl) rfl rfl ?_
      refine sw_iload_n (dX9_hecke_0.at 9 rfl) rfl rfl ?_
      refine sw_callV (B' := B0) (As := [vi (o)]) (mc := 0) (ms := 0) (dX9_hecke_0.at 10 rfl) lk_X9_251 (S_lt 49 (by decide)) (S_49 nw nx g) rfl rfl (Nat.le_of_ble_eq_true rfl) rfl (Nat.le_refl _) (Nat.le_refl _) ?_
      refine c_X9_isElement (x := o) (j := j + 0) hM hV hv.1 ?_
      replace hv := hv.2
      refine sw_if_eq (tgt := 29) (dX9_hecke_0.at 11 rfl) (by decide) (bz_rng _) (fun q => ?_) (fun q => ?_)
      · replace hv := hv.1 (bz_0 q)
        refine sw_ldcw (z := (-1000000)) (dX9_hecke_0.at 14 rfl) kc_X9_318 (by decide) ?_
        exact sw_iret (dX9_hecke_0.at 15 rfl) rfl (Nat.le_refl _) (Nat.le_refl _) hv
      · replace hv := hv.2 (bz_n0 q)
        refine sw_iload (dX9_hecke_0.at 12 rfl) rfl ?_
        refine sw_if_ge (tgt := 33) (dX9_hecke_0.at 13 rfl) (by decide) hv.1 (fun q => ?_) (fun q => ?_)
        · replace hv := hv.2.1 q
          refine sw_iconst (dX9_hecke_0.at 16 rfl) ?_
          refine sw_istore (lo' := [some (vr (49)), some (vi (v)), some (vi (w)), some (vi (o)), some (vi (k)), some (vi (0))]) (dX9_hecke_0.at 17 rfl) (by decide) rfl ?_
          exact hv
        · replace hv := hv.2.2 q
          refine sw_ldcw (z := (-1000000)) (dX9_hecke_0.at 14 rfl) kc_X9_318 (by decide) ?_
          exact sw_iret (dX9_hecke_0.at 15 rfl) rfl (Nat.le_refl _) (Nat.le_refl _) hv

set_option maxHeartbeats 4000000 in
theorem c_X9_hecke {G : GG} {j nw nx gn : Nat} {g : Nat → Sh} {c : Nat → Nat → Int} {post : Option AV → AM → Prop} {P : GD} {v w o k : Int} (hM : ML c P) (hV : GV P) (hC : GC P) (hs : hSi P) (p1 : -2147483648 ≤ v ∧ v < 2147483648) (p2 : -2147483648 ≤ w ∧ w < 2147483648) (p3 : -2147483648 ≤ o ∧ o < 2147483648) (p4 : -2147483648 ≤ k ∧ k < 2147483648) (K : ∀ c2 : Nat → Nat → Int, SC c c2 → post (some (vi (q_hecke P v w o k))) (S nw nx g, 78 + gn, c2)) : SM G (j + 3) mX9_hecke [vr (49), vi (v), vi (w), vi (o), vi (k)] (S nw nx g, 78 + gn, c) 0 0 post := by
  refine sm_of wX9_hecke rfl (Nat.le_of_ble_eq_true rfl) ?_
  have hN60 := GV_N hV
  have hR5 := GV_R hV
  by_cases hv : ((0 ≤ v ∧ v < (gN P : Int)) ∧ 0 ≤ w ∧ w < (gN P : Int)) ∧ (0 ≤ o ∧ o < (gN P : Int)) ∧ 0 ≤ k
  · obtain ⟨v, rfl⟩ : ∃ n : Nat, v = (n : Int) := ⟨v.toNat, by omega⟩
    obtain ⟨w, rfl⟩ : ∃ n : Nat, w = (n : Int) := ⟨w.toNat, by omega⟩
    obtain ⟨o, rfl⟩ : ∃ n : Nat, o = (n : Int) := ⟨o.toNat, by omega⟩
    obtain ⟨k, rfl⟩ : ∃ n : Nat, k = (n : Int) := ⟨k.toNat, by omega⟩
    have e : q_hecke P ((v : Nat) : Int) ((w : Nat) : Int) ((o : Nat) : Int) ((k : Nat) : Int) = heF P v w o k := by
      rw [q_hecke, if_pos hv]
      simp only [Int.toNat_natCast]
    rw [e] at K
    have K1 : ∀ (z : Int) (c2 : Nat → Nat → Int), (SC c c2) → z = (heF P v w o k) → post (some (vi z)) (S nw nx g, 78 + gn, c2) := fun z c2 h e9 => e9 ▸ K c2 h
    have hw9 : w < gN P := by omega
    have hz9 : o < gN P := by omega
    have fw := (hV.2.2.1 w hw9).1
    rw [he_eq hC hV hs hw9 hz9] at K
    refine g_X9_hecke_0n hM hV hC hs ?_
    refine ⟨?_, ⟨fun q => ?_, fun q => ⟨?_, ⟨fun q => ?_, fun q => ⟨?_, ⟨fun q => ?_, fun q => ⟨?_, ⟨fun q => ?_, fun q => ?_⟩⟩⟩⟩⟩⟩⟩⟩
    all_goals first | omega | assumption | (exfalso; simp only [decide_eq_true_eq, decide_eq_false_iff_not] at *; omega) | (have l9 := le_36 (G := G) (j := j) (nw := nw) (nx := nx) (gn := gn) (g := g) (post := post) (v := v) (w := w) (z := o) (k := k) (H := c 70) (s := c 61) hM hV hC (by omega) hw9 840 0 (c 69) (by omega) (fun s2 h2 => le_79 hM hV hC hs fw h2 hw9 hz9 (by omega) (fun F H => K _ (SC_wr (SC_wr (SC_wr SC_rf (by decide)) (by decide)) (by decide))) (gL P w) 0 _ _ (by omega) (fun q r hq hr => by rw [iQ_at, if_pos (show 0 ≤ 14 * q + r ∧ 14 * q + r < 0 + 840 by omega), hkA]; by_cases e : q = v ∧ r = 0; rw [if_pos (by omega)]; exact (if_pos e).symm; rw [if_neg (by omega)]; exact (if_neg e).symm)); rw [wr_self c 69, wr_self c 70, wr_self c 61] at l9; exact l9) | exact K _ (by first | exact SC_rf | assumption | (refine SC_tr ?_ (by assumption); first | assumption | (refine SC_tr ?_ (by assumption); first | assumption | (refine SC_tr ?_ (by assumption); assumption)))) | (refine K1 _ _ (by first | exact SC_rf | assumption | (refine SC_tr ?_ (by assumption); first | assumption | (refine SC_tr ?_ (by assumption); first | assumption | (refine SC_tr ?_ (by assumption); assumption)))) ?_; first | rfl | (simp [bz, *]; done) | (split <;> first | rfl | omega))
  · have e : q_hecke P v w o k = (-1000000) := by rw [q_hecke, if_neg hv]
    rw [e] at K
    have K1 : ∀ (z : Int) (c2 : Nat → Nat → Int), (SC c c2) → z = ((-1000000)) → post (some (vi z)) (S nw nx g, 78 + gn, c2) := fun z c2 h e9 => e9 ▸ K c2 h
    refine g_X9_hecke_0 hM hV hC hs ?_
    refine ⟨?_, ⟨fun q => ?_, fun q => ⟨?_, ⟨fun q => ?_, fun q => ⟨?_, ⟨fun q => ?_, fun q => ⟨?_, ⟨fun q => ?_, fun q => ?_⟩⟩⟩⟩⟩⟩⟩⟩
    all_goals first | omega | assumption | (exfalso; simp only [decide_eq_true_eq, decide_eq_false_iff_not] at *; omega) | exact K _ (by first | exact SC_rf | assumption | (refine SC_tr ?_ (by assumption); first | assumption | (refine SC_tr ?_ (by assumption); first | assumption | (refine SC_tr ?_ (by assumption); assumption)))) | (refine K1 _ _ (by first | exact SC_rf | assumption | (refine SC_tr ?_ (by assumption); first | assumption | (refine SC_tr ?_ (by assumption); first | assumption | (refine SC_tr ?_ (by assumption); assumption)))) ?_; first | rfl | (simp [bz, *]; done) | (split <;> first | rfl | omega))

