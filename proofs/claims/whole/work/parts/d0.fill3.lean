set_option maxHeartbeats 2000000 in
set_option maxRecDepth 20000 in
theorem g_X1_allByE_0 {G : GG} {j nw nx gn : Nat} {g : Nat → Sh} {c : Nat → Nat → Int} {post : Option AV → AM → Prop} {e : Nat} {tt : Nat} {s : Nat} (he : e = 21 ∨ e = 35) {P : GD} {be : Nat → Nat} {le : Nat → Nat} {hd : Nat → Nat} {ls : Nat → Nat} {st : Nat → Int} {pr : Nat → Nat} {iv : Nat → Nat} {fa : Nat → Nat} {eb : Nat → Nat} {ml : Nat → Nat} {mf : Nat → Int} {rw : Nat → Nat} {dn : Nat → Nat} {mm : Nat} (hle : ∀ x, x < gN P → le x = gL P x) (hhd : ∀ x, x < gN P → hd x = gH P x) (hls : ∀ x, x < gN P → ls x = gA P x) (hst : ∀ x s, x < gN P → s < gR P → st (x * 5 + s) = ((gS P x s : Nat) : Int)) (hV : GV P) (hC : GC P)  (hv : SW G (j + 1) mX1_allBy 6 [some (vr (e)), some (vl (((tt : Nat) : Int))), none, some (vi (((s : Nat) : Int))), some (vl (0)), none, some (vi (0))] [] (S nw nx g, 78 + gn, (em c e be le hd ls st pr iv fa eb ml mf rw dn (gR P) (gN P) mm)) B0 post) :
    SW G (j + 1) mX1_allBy 0 [some (vr (e)), some (vl (((tt : Nat) : Int))), none, some (vi (((s : Nat) : Int))), none, none, none] [] (S nw nx g, 78 + gn, (em c e be le hd ls st pr iv fa eb ml mf rw dn (gR P) (gN P) mm)) B0 post := by
  refine sw_lconst (z := 0) (dX1_allBy.at 0 rfl) (by decide) ?_
  refine sw_lstore (lo' := [some (vr (e)), some (vl (((tt : Nat) : Int))), none, some (vi (((s : Nat) : Int))), some (vl (0)), none, none]) (dX1_allBy.at 1 rfl) (by decide) rfl ?_
  refine sw_iconst (dX1_allBy.at 2 rfl) ?_
  refine sw_istore (lo' := [some (vr (e)), some (vl (((tt : Nat) : Int))), none, some (vi (((s : Nat) : Int))), some (vl (0)), none, some (vi (0))]) (dX1_allBy.at 3 rfl) (by decide) rfl ?_
  exact hv

set_option maxHeartbeats 2000000 in
set_option maxRecDepth 20000 in
theorem g_X1_allByE_6 {G : GG} {j nw nx gn : Nat} {g : Nat → Sh} {c : Nat → Nat → Int} {post : Option AV → AM → Prop} {e : Nat} {tt : Nat} {s : Nat} (he : e = 21 ∨ e = 35) {P : GD} {be : Nat → Nat} {le : Nat → Nat} {hd : Nat → Nat} {ls : Nat → Nat} {st : Nat → Int} {pr : Nat → Nat} {iv : Nat → Nat} {fa : Nat → Nat} {eb : Nat → Nat} {ml : Nat → Nat} {mf : Nat → Int} {rw : Nat → Nat} {dn : Nat → Nat} {mm : Nat} {xx : Nat} {aa : Nat} (hle : ∀ x, x < gN P → le x = gL P x) (hhd : ∀ x, x < gN P → hd x = gH P x) (hls : ∀ x, x < gN P → ls x = gA P x) (hst : ∀ x s, x < gN P → s < gR P → st (x * 5 + s) = ((gS P x s : Nat) : Int)) (hV : GV P) (hC : GC P)  (hv : (xx < 2147483648) ∧ (gN P < 2147483648) ∧ (((gN P ≤ xx) → post (some (vl (((aa : Nat) : Int)))) (S nw nx g, 78 + gn, (em c e be le hd ls st pr iv fa eb ml mf rw dn (gR P) (gN P) mm))) ∧ ((¬ (gN P ≤ xx)) → (tt < 9223372036854775808) ∧ (xx < 64) ∧ ((((tt.testBit xx) = false) → SW G (j + 1) mX1_allBy 6 [some (vr (e)), some (vl (((tt : Nat) : Int))), none, some (vi (((s : Nat) : Int))), some (vl (((aa : Nat) : Int))), none, some (vi (((xx + 1 : Nat) : Int)))] [] (S nw nx g, 78 + gn, (em c e be le hd ls st pr iv fa eb ml mf rw dn (gR P) (gN P) mm)) B0 post) ∧ (((tt.testBit xx) = true) → (xx < gN P) ∧ (s < gR P) ∧ ((gS P xx s < 64) ∧ (SW G (j + 1) mX1_allBy 6 [some (vr (e)), some (vl (((tt : Nat) : Int))), none, some (vi (((s : Nat) : Int))), some (vl (((aa ||| (1 * 2 ^ (gS P xx s)) : Nat) : Int))), none, some (vi (((xx + 1 : Nat) : Int)))] [] (S nw nx g, 78 + gn, (em c e be le hd ls st pr iv fa eb ml mf rw dn (gR P) (gN P) mm)) B0 post))))))) :
    SW G (j + 1) mX1_allBy 6 [some (vr (e)), some (vl (((tt : Nat) : Int))), none, some (vi (((s : Nat) : Int))), some (vl (((aa : Nat) : Int))), none, some (vi (((xx : Nat) : Int)))] [] (S nw nx g, 78 + gn, (em c e be le hd ls st pr iv fa eb ml mf rw dn (gR P) (gN P) mm)) B0 post := by
  refine sw_iload (dX1_allBy.at 4 rfl) rfl ?_
  refine sw_aload_n (dX1_allBy.at 5 rfl) rfl rfl ?_
  refine sw_getIE (w := ((gN P : Nat) : Int)) (dX1_allBy.at 6 rfl) fp_X1_59 (S_e_lt he) (S_e he) rfl em_f14 ?_
  refine sw_icmpN_ge xx (gN P) (tgt := 44) (dX1_allBy.at 7 rfl) (by decide) hv.1 hv.2.1 (fun q => ?_) (fun q => ?_)
  · replace hv := hv.2.2.1 q
    refine sw_lload (dX1_allBy.at 23 rfl) rfl ?_
    exact sw_lret (dX1_allBy.at 24 rfl) rfl (Nat.le_refl _) (Nat.le_refl _) hv
  · replace hv := hv.2.2.2 q
    refine sw_lload_n (dX1_allBy.at 8 rfl) rfl rfl ?_
    refine sw_iload (dX1_allBy.at 9 rfl) rfl ?_
    refine sw_callN (B' := B0) (As := [vl (((tt : Nat) : Int)), vi (((xx : Nat) : Int))]) (mc := 0) (ms := 0) (dX1_allBy.at 10 rfl) lk_X1_113 rfl rfl (Nat.le_of_ble_eq_true rfl) rfl (Nat.le_refl _) (Nat.le_refl _) ?_
    refine c_X8_hasBit (s := tt) (i := xx) (j := j + 0) hv.1 hv.2.1 ?_
    replace hv := hv.2.2
    refine sw_if_eq (tgt := 38) (dX1_allBy.at 11 rfl) (by decide) (bz_rng _) (fun q => ?_) (fun q => ?_)
    · replace hv := hv.1 (bz_0 q)
      refine sw_iinc (lo' := [some (vr (e)), some (vl (((tt : Nat) : Int))), none, some (vi (((s : Nat) : Int))), some (vl (((aa : Nat) : Int))), none, some (vi (((xx + 1 : Nat) : Int)))]) (dX1_allBy.at 21 rfl) rfl (by decide) rfl ?_
      refine sw_goto (tgt := 6) (dX1_allBy.at 22 rfl) (by decide) ?_
      exact hv
    · replace hv := hv.2 (bz_n0 q)
      refine sw_lload (dX1_allBy.at 12 rfl) rfl ?_
      refine sw_lconst (z := 1) (dX1_allBy.at 13 rfl) (by decide) ?_
      refine sw_aload_n (dX1_allBy.at 14 rfl) rfl rfl ?_
      refine sw_iload (dX1_allBy.at 15 rfl) rfl ?_
      refine sw_iload_n (dX1_allBy.at 16 rfl) rfl rfl ?_
      refine sw_callV (B' := B0) (As := [vi (((xx : Nat) : Int)), vi (((s : Nat) : Int))]) (mc := 0) (ms := 0) (dX1_allBy.at 17 rfl) lk_X1_92 (S_e_lt he) (S_e he) rfl rfl (Nat.le_of_ble_eq_true rfl) rfl (Nat.le_refl _) (Nat.le_refl _) ?_
      refine c_X1_byN (x := xx) (s := s) (j := j + 0) he hst hV hv.1 hv.2.1 ?_
      replace hv := hv.2.2
      refine sw_lshlN 1 (gS P xx s) (dX1_allBy.at 18 rfl) hv.1 ?_
      replace hv := hv.2
      refine sw_lorN aa (1 * 2 ^ (gS P xx s)) (dX1_allBy.at 19 rfl) ?_
      refine sw_lstore (lo' := [some (vr (e)), some (vl (((tt : Nat) : Int))), none, some (vi (((s : Nat) : Int))), some (vl (((aa ||| (1 * 2 ^ (gS P xx s)) : Nat) : Int))), none, some (vi (((xx : Nat) : Int)))]) (dX1_allBy.at 20 rfl) (by decide) rfl ?_
      refine sw_iinc (lo' := [some (vr (e)), some (vl (((tt : Nat) : Int))), none, some (vi (((s : Nat) : Int))), some (vl (((aa ||| (1 * 2 ^ (gS P xx s)) : Nat) : Int))), none, some (vi (((xx + 1 : Nat) : Int)))]) (dX1_allBy.at 21 rfl) rfl (by decide) rfl ?_
      refine sw_goto (tgt := 6) (dX1_allBy.at 22 rfl) (by decide) ?_
      exact hv

set_option maxHeartbeats 4000000 in
theorem c_X1_allByE {G : GG} {j nw nx gn : Nat} {g : Nat → Sh} {c : Nat → Nat → Int} {post : Option AV → AM → Prop} {e tt s : Nat} {P : GD} {be : Nat → Nat} {le : Nat → Nat} {hd : Nat → Nat} {ls : Nat → Nat} {st : Nat → Int} {pr : Nat → Nat} {iv : Nat → Nat} {fa : Nat → Nat} {eb : Nat → Nat} {ml : Nat → Nat} {mf : Nat → Int} {rw : Nat → Nat} {dn : Nat → Nat} {mm : Nat} (he : e = 21 ∨ e = 35) (hle : ∀ x, x < gN P → le x = gL P x) (hhd : ∀ x, x < gN P → hd x = gH P x) (hls : ∀ x, x < gN P → ls x = gA P x) (hst : ∀ x s, x < gN P → s < gR P → st (x * 5 + s) = ((gS P x s : Nat) : Int)) (hV : GV P) (hC : GC P) (p1 : s < gR P) (p2 : tt < 2 ^ 60) (K : post (some (vl ((gAll P tt s (gN P) : Nat) : Int))) (S nw nx g, 78 + gn, (em c e be le hd ls st pr iv fa eb ml mf rw dn (gR P) (gN P) mm))) : SM G (j + 2) mX1_allBy [vr (e), vl (((tt : Nat) : Int)), vi (((s : Nat) : Int))] (S nw nx g, 78 + gn, (em c e be le hd ls st pr iv fa eb ml mf rw dn (gR P) (gN P) mm)) 0 0 post := by
  have hN := GV_N hV
  have L : ∀ t xx, xx + t = gN P → SW G (j + 1) mX1_allBy 6 [some (vr (e)), some (vl (((tt : Nat) : Int))), none, some (vi (((s : Nat) : Int))), some (vl (((gAll P tt s xx : Nat) : Int))), none, some (vi (((xx : Nat) : Int)))] [] (S nw nx g, 78 + gn, (em c e be le hd ls st pr iv fa eb ml mf rw dn (gR P) (gN P) mm)) B0 post := by
    intro t
    induction t with
    | zero =>
      intro xx hx
      have e : xx = gN P := by omega
      subst e
      refine g_X1_allByE_6 he hle hhd hls hst hV hC ?_
      refine ⟨?_, ?_, ⟨fun q => ?_, fun q => ⟨?_, ?_, ⟨fun q => ?_, fun q => ⟨?_, ?_, ⟨?_, ?_⟩⟩⟩⟩⟩⟩
      all_goals first | omega | (exfalso; omega) | exact K
    | succ t ih =>
      intro xx hx
      have hi := ih (xx + 1) (by omega)
      have h7 := hV.2.2.2.1 xx s (by omega) p1
      simp only [gAll] at hi
      refine g_X1_allByE_6 he hle hhd hls hst hV hC ?_
      cases hb : tt.testBit xx with
      | false =>
        simp only [hb] at hi
        refine ⟨?_, ?_, ⟨fun q => ?_, fun q => ⟨?_, ?_, ⟨fun q => ?_, fun q => ⟨?_, ?_, ⟨?_, ?_⟩⟩⟩⟩⟩⟩
        all_goals first | omega | (exfalso; omega) | exact hi | (exfalso; rw [hb] at *; contradiction)
      | true =>
        simp only [hb] at hi
        refine ⟨?_, ?_, ⟨fun q => ?_, fun q => ⟨?_, ?_, ⟨fun q => ?_, fun q => ⟨?_, ?_, ⟨?_, ?_⟩⟩⟩⟩⟩⟩
        all_goals first | omega | (exfalso; omega) | exact hi | (exfalso; rw [hb] at *; contradiction)
  refine sm_of wX1_allBy rfl (Nat.le_of_ble_eq_true rfl) ?_
  refine g_X1_allByE_0 he hle hhd hls hst hV hC ?_
  exact L (gN P) 0 (by omega)

set_option maxHeartbeats 2000000 in
set_option maxRecDepth 20000 in
theorem g_X1_fillDowns_0 {G : GG} {j nw nx gn : Nat} {g : Nat → Sh} {c : Nat → Nat → Int} {post : Option AV → AM → Prop} {e : Nat} (he : e = 21 ∨ e = 35) {P : GD} {be : Nat → Nat} {le : Nat → Nat} {hd : Nat → Nat} {ls : Nat → Nat} {st : Nat → Int} {pr : Nat → Nat} {iv : Nat → Nat} {fa : Nat → Nat} {eb : Nat → Nat} {ml : Nat → Nat} {mf : Nat → Int} {rw : Nat → Nat} {dn : Nat → Nat} {mm : Nat} (hle : ∀ x, x < gN P → le x = gL P x) (hhd : ∀ x, x < gN P → hd x = gH P x) (hls : ∀ x, x < gN P → ls x = gA P x) (hst : ∀ x s, x < gN P → s < gR P → st (x * 5 + s) = ((gS P x s : Nat) : Int)) (hV : GV P) (hC : GC P)  (hv : SW G (j + 2) mX1_fillDowns 9 [some (vr (e)), some (vi (1)), none, none] [] (S nw nx g, 78 + gn, (em c e be le hd ls st pr iv fa eb ml mf rw (uN dn 0 1) (gR P) (gN P) mm)) B0 post) :
    SW G (j + 2) mX1_fillDowns 0 [some (vr (e)), none, none, none] [] (S nw nx g, 78 + gn, (em c e be le hd ls st pr iv fa eb ml mf rw dn (gR P) (gN P) mm)) B0 post := by
  refine sw_aload_n (dX1_fillDowns.at 0 rfl) rfl rfl ?_
  refine sw_getR (dX1_fillDowns.at 1 rfl) fp_X1_49 (S_e_lt he) (S_e he) rfl rfl ?_
  refine sw_iconst (dX1_fillDowns.at 2 rfl) ?_
  refine sw_lconst (z := 1) (dX1_fillDowns.at 3 rfl) (by decide) ?_
  refine sw_lastN 0 (dX1_fillDowns.at 4 rfl) (S_ek_lt he (by decide)) (S_e_13 he) (by decide) (by decide) ?_
  refine SW.cg (M' := (S nw nx g, 78 + gn, (em c e be le hd ls st pr iv fa eb ml mf rw (uN dn 0 1) (gR P) (gN P) mm))) (congrArg (fun m => (S nw nx g, 78 + gn, m)) em_w13) ?_
  refine sw_iconst (dX1_fillDowns.at 5 rfl) ?_
  refine sw_istore_n (lo' := [some (vr (e)), some (vi (1)), none, none]) (dX1_fillDowns.at 6 rfl) rfl (by decide) rfl ?_
  exact hv

set_option maxHeartbeats 2000000 in
set_option maxRecDepth 20000 in
theorem g_X1_fillDowns_9 {G : GG} {j nw nx gn : Nat} {g : Nat → Sh} {c : Nat → Nat → Int} {post : Option AV → AM → Prop} {e : Nat} (he : e = 21 ∨ e = 35) {P : GD} {be : Nat → Nat} {le : Nat → Nat} {hd : Nat → Nat} {ls : Nat → Nat} {st : Nat → Int} {pr : Nat → Nat} {iv : Nat → Nat} {fa : Nat → Nat} {eb : Nat → Nat} {ml : Nat → Nat} {mf : Nat → Int} {rw : Nat → Nat} {dn : Nat → Nat} {mm : Nat} {xx : Nat} (hle : ∀ x, x < gN P → le x = gL P x) (hhd : ∀ x, x < gN P → hd x = gH P x) (hls : ∀ x, x < gN P → ls x = gA P x) (hst : ∀ x s, x < gN P → s < gR P → st (x * 5 + s) = ((gS P x s : Nat) : Int)) (hV : GV P) (hC : GC P)  (hv : (xx < 2147483648) ∧ (gN P < 2147483648) ∧ (((gN P ≤ xx) → post none (S nw nx g, 78 + gn, (em c e be le hd ls st pr iv fa eb ml mf rw dn (gR P) (gN P) mm))) ∧ ((¬ (gN P ≤ xx)) → (xx < gN P) ∧ (xx < 60) ∧ ((gH P xx < 60) ∧ ((xx < gN P) ∧ (xx < 60) ∧ ((gA P xx < gR P) ∧ (dn (gH P xx) < 2 ^ 60) ∧ ((xx < 60) ∧ (SW G (j + 2) mX1_fillDowns 9 [some (vr (e)), some (vi (((xx + 1 : Nat) : Int))), none, none] [] (S nw nx g, 78 + gn, (em c e be le hd ls st pr iv fa eb ml mf rw (uN dn xx ((dn (gH P xx)) ||| (gAll P (dn (gH P xx)) (gA P xx) (gN P)))) (gR P) (gN P) mm)) B0 post)))))))) :
    SW G (j + 2) mX1_fillDowns 9 [some (vr (e)), some (vi (((xx : Nat) : Int))), none, none] [] (S nw nx g, 78 + gn, (em c e be le hd ls st pr iv fa eb ml mf rw dn (gR P) (gN P) mm)) B0 post := by
  refine sw_iload_n (dX1_fillDowns.at 7 rfl) rfl rfl ?_
  refine sw_aload_n (dX1_fillDowns.at 8 rfl) rfl rfl ?_
  refine sw_getIE (w := ((gN P : Nat) : Int)) (dX1_fillDowns.at 9 rfl) fp_X1_59 (S_e_lt he) (S_e he) rfl em_f14 ?_
  refine sw_icmpN_ge xx (gN P) (tgt := 54) (dX1_fillDowns.at 10 rfl) (by decide) hv.1 hv.2.1 (fun q => ?_) (fun q => ?_)
  · replace hv := hv.2.2.1 q
    exact sw_vret (dX1_fillDowns.at 34 rfl) rfl (Nat.le_refl _) (Nat.le_refl _) hv
  · replace hv := hv.2.2.2 q
    refine sw_aload_n (dX1_fillDowns.at 11 rfl) rfl rfl ?_
    refine sw_getR (dX1_fillDowns.at 12 rfl) fp_X1_49 (S_e_lt he) (S_e he) rfl rfl ?_
    refine sw_aload_n (dX1_fillDowns.at 13 rfl) rfl rfl ?_
    refine sw_getR (dX1_fillDowns.at 14 rfl) fp_X1_18 (S_e_lt he) (S_e he) rfl rfl ?_
    refine sw_iload_n (dX1_fillDowns.at 15 rfl) rfl rfl ?_
    refine sw_ialdN xx (w := ((gH P xx : Nat) : Int)) (dX1_fillDowns.at 16 rfl) (S_ek_lt he (by decide)) (S_e_3 he) (by decide) hv.2.1 (em_r3.trans (congrArg Int.ofNat (hhd _ hv.1))) ?_
    replace hv := hv.2.2
    refine sw_laldN (gH P xx) (w := ((dn (gH P xx) : Nat) : Int)) (dX1_fillDowns.at 17 rfl) (S_ek_lt he (by decide)) (S_e_13 he) (by decide) hv.1 em_r13 ?_
    replace hv := hv.2
    refine sw_lstore_n (lo' := [some (vr (e)), some (vi (((xx : Nat) : Int))), some (vl (((dn (gH P xx) : Nat) : Int))), none]) (dX1_fillDowns.at 18 rfl) rfl (by decide) rfl ?_
    refine sw_aload_n (dX1_fillDowns.at 19 rfl) rfl rfl ?_
    refine sw_getR (dX1_fillDowns.at 20 rfl) fp_X1_49 (S_e_lt he) (S_e he) rfl rfl ?_
    refine sw_iload_n (dX1_fillDowns.at 21 rfl) rfl rfl ?_
    refine sw_lload_n (dX1_fillDowns.at 22 rfl) rfl rfl ?_
    refine sw_aload_n (dX1_fillDowns.at 23 rfl) rfl rfl ?_
    refine sw_lload_n (dX1_fillDowns.at 24 rfl) rfl rfl ?_
    refine sw_aload_n (dX1_fillDowns.at 25 rfl) rfl rfl ?_
    refine sw_getR (dX1_fillDowns.at 26 rfl) fp_X1_21 (S_e_lt he) (S_e he) rfl rfl ?_
    refine sw_iload_n (dX1_fillDowns.at 27 rfl) rfl rfl ?_
    refine sw_ialdN xx (w := ((gA P xx : Nat) : Int)) (dX1_fillDowns.at 28 rfl) (S_ek_lt he (by decide)) (S_e_4 he) (by decide) hv.2.1 (em_r4.trans (congrArg Int.ofNat (hls _ hv.1))) ?_
    replace hv := hv.2.2
    refine sw_callV (B' := B0) (As := [vl (((dn (gH P xx) : Nat) : Int)), vi (((gA P xx : Nat) : Int))]) (mc := 0) (ms := 0) (dX1_fillDowns.at 29 rfl) lk_X1_117 (S_e_lt he) (S_e he) rfl rfl (Nat.le_of_ble_eq_true rfl) rfl (Nat.le_refl _) (Nat.le_refl _) ?_
    refine c_X1_allByE (tt := (dn (gH P xx))) (s := (gA P xx)) (j := j + 0) he hle hhd hls hst hV hC hv.1 hv.2.1 ?_
    replace hv := hv.2.2
    refine sw_lorN (dn (gH P xx)) (gAll P (dn (gH P xx)) (gA P xx) (gN P)) (dX1_fillDowns.at 30 rfl) ?_
    refine sw_lastN xx (dX1_fillDowns.at 31 rfl) (S_ek_lt he (by decide)) (S_e_13 he) (by decide) hv.1 ?_
    refine SW.cg (M' := (S nw nx g, 78 + gn, (em c e be le hd ls st pr iv fa eb ml mf rw (uN dn xx ((dn (gH P xx)) ||| (gAll P (dn (gH P xx)) (gA P xx) (gN P)))) (gR P) (gN P) mm))) (congrArg (fun m => (S nw nx g, 78 + gn, m)) em_w13) ?_
    replace hv := hv.2
    refine sw_iinc (lo' := [some (vr (e)), some (vi (((xx + 1 : Nat) : Int))), some (vl (((dn (gH P xx) : Nat) : Int))), none]) (dX1_fillDowns.at 32 rfl) rfl (by decide) rfl ?_
    refine sw_goto (tgt := 9) (dX1_fillDowns.at 33 rfl) (by decide) ?_
    exact sw_mask (bs := [true, true, false, false]) hv

set_option maxHeartbeats 4000000 in
theorem c_X1_fillDowns {G : GG} {j nw nx gn : Nat} {g : Nat → Sh} {c : Nat → Nat → Int} {post : Option AV → AM → Prop} {e : Nat} {P : GD} {be : Nat → Nat} {le : Nat → Nat} {hd : Nat → Nat} {ls : Nat → Nat} {st : Nat → Int} {pr : Nat → Nat} {iv : Nat → Nat} {fa : Nat → Nat} {eb : Nat → Nat} {ml : Nat → Nat} {mf : Nat → Int} {rw : Nat → Nat} {dn : Nat → Nat} {mm : Nat} (he : e = 21 ∨ e = 35) (hle : ∀ x, x < gN P → le x = gL P x) (hhd : ∀ x, x < gN P → hd x = gH P x) (hls : ∀ x, x < gN P → ls x = gA P x) (hst : ∀ x s, x < gN P → s < gR P → st (x * 5 + s) = ((gS P x s : Nat) : Int)) (hV : GV P) (hC : GC P) (hP : FQ P) (h0 : 0 < gN P) (K : ∀ dn : Nat → Nat, (∀ x, x < gN P → dn x = gD P x) → post none (S nw nx g, 78 + gn, (em c e be le hd ls st pr iv fa eb ml mf rw dn (gR P) (gN P) mm))) : SM G (j + 3) mX1_fillDowns [vr (e)] (S nw nx g, 78 + gn, (em c e be le hd ls st pr iv fa eb ml mf rw dn (gR P) (gN P) mm)) 0 0 post := by
  have hN := GV_N hV
  have L : ∀ (t xx : Nat) (dn : Nat → Nat), xx + t = gN P → 0 < xx → (∀ x, x < xx → dn x = gD P x) → SW G (j + 2) mX1_fillDowns 9 [some (vr (e)), some (vi (((xx : Nat) : Int))), none, none] [] (S nw nx g, 78 + gn, (em c e be le hd ls st pr iv fa eb ml mf rw dn (gR P) (gN P) mm)) B0 post := by
    intro t
    induction t with
    | zero =>
      intro xx dn hx x0 h
      refine g_X1_fillDowns_9 he hle hhd hls hst hV hC ?_
      refine ⟨?_, ?_, ⟨fun q => ?_, fun q => ⟨?_, ?_, ⟨?_, ⟨?_, ?_, ⟨?_, ?_, ⟨?_, ?_⟩⟩⟩⟩⟩⟩⟩
      all_goals first | omega | (exfalso; omega) | exact K _ (fun x a => h x (by omega))
    | succ t ih =>
      intro xx dn hx x0 h
      have f1 := hC.2.1.2 xx x0 (by omega)
      have f2 := h (gH P xx) f1.2
      have f3 := (hV.2.2.1 xx (by omega)).2.2.1
      have f4 := (hV.2.2.1 (gH P xx) (by omega)).2.2.2.2.2.2.2.2
      have f5 := hP.2.2.1.2 xx x0 (by omega)
      refine g_X1_fillDowns_9 he hle hhd hls hst hV hC ?_
      rw [f2, ← f5]
      refine ⟨?_, ?_, ⟨fun q => ?_, fun q => ⟨?_, ?_, ⟨?_, ⟨?_, ?_, ⟨?_, ?_, ⟨?_, ?_⟩⟩⟩⟩⟩⟩⟩
      all_goals first | omega | (exfalso; omega) | exact f4 | exact ih _ _ (by omega) (by omega) (fun x a => by by_cases e : x = xx; (rw [e, uN, if_pos rfl]); (rw [uN, if_neg e]; exact h x (by omega)))
  refine sm_of wX1_fillDowns rfl (Nat.le_of_ble_eq_true rfl) ?_
  refine g_X1_fillDowns_0 he hle hhd hls hst hV hC ?_
  refine ?_
  all_goals first | omega | decide | exact L (gN P - 1) 1 _ (by omega) (by omega) (fun x a => by have e : x = 0 := (by omega); subst e; rw [uN, if_pos rfl]; exact hP.2.2.1.1.symm)

set_option maxHeartbeats 2000000 in
set_option maxRecDepth 20000 in
theorem g_X1_fillMirrors_0 {G : GG} {j nw nx gn : Nat} {g : Nat → Sh} {c : Nat → Nat → Int} {post : Option AV → AM → Prop} {e : Nat} (he : e = 21 ∨ e = 35) {P : GD} {be : Nat → Nat} {le : Nat → Nat} {hd : Nat → Nat} {ls : Nat → Nat} {st : Nat → Int} {pr : Nat → Nat} {iv : Nat → Nat} {fa : Nat → Nat} {eb : Nat → Nat} {ml : Nat → Nat} {mf : Nat → Int} {rw : Nat → Nat} {dn : Nat → Nat} {mm : Nat} (hle : ∀ x, x < gN P → le x = gL P x) (hhd : ∀ x, x < gN P → hd x = gH P x) (hls : ∀ x, x < gN P → ls x = gA P x) (hst : ∀ x s, x < gN P → s < gR P → st (x * 5 + s) = ((gS P x s : Nat) : Int)) (hV : GV P) (hC : GC P) (hpr : ∀ x y, x < gN P → y < gN P → pr (x * 60 + y) = gX P x y) (hiv : ∀ x, x < gN P → iv x = gI P x)  (hv : SW G (j + 1) mX1_fillMirrors 4 [some (vr (e)), some (vl (0)), none, some (vi (0)), none] [] (S nw nx g, 78 + gn, (em c e be le hd ls st pr iv fa eb ml mf rw dn (gR P) (gN P) mm)) B0 post) :
    SW G (j + 1) mX1_fillMirrors 0 [some (vr (e)), none, none, none, none] [] (S nw nx g, 78 + gn, (em c e be le hd ls st pr iv fa eb ml mf rw dn (gR P) (gN P) mm)) B0 post := by
  refine sw_lconst (z := 0) (dX1_fillMirrors.at 0 rfl) (by decide) ?_
  refine sw_lstore_n (lo' := [some (vr (e)), some (vl (0)), none, none, none]) (dX1_fillMirrors.at 1 rfl) rfl (by decide) rfl ?_
  refine sw_iconst (dX1_fillMirrors.at 2 rfl) ?_
  refine sw_istore_n (lo' := [some (vr (e)), some (vl (0)), none, some (vi (0)), none]) (dX1_fillMirrors.at 3 rfl) rfl (by decide) rfl ?_
  exact hv

set_option maxHeartbeats 2000000 in
set_option maxRecDepth 20000 in
theorem g_X1_fillMirrors_4 {G : GG} {j nw nx gn : Nat} {g : Nat → Sh} {c : Nat → Nat → Int} {post : Option AV → AM → Prop} {e : Nat} (he : e = 21 ∨ e = 35) {P : GD} {be : Nat → Nat} {le : Nat → Nat} {hd : Nat → Nat} {ls : Nat → Nat} {st : Nat → Int} {pr : Nat → Nat} {iv : Nat → Nat} {fa : Nat → Nat} {eb : Nat → Nat} {ml : Nat → Nat} {mf : Nat → Int} {rw : Nat → Nat} {dn : Nat → Nat} {mm : Nat} {xx : Nat} {aa : Nat} (hle : ∀ x, x < gN P → le x = gL P x) (hhd : ∀ x, x < gN P → hd x = gH P x) (hls : ∀ x, x < gN P → ls x = gA P x) (hst : ∀ x s, x < gN P → s < gR P → st (x * 5 + s) = ((gS P x s : Nat) : Int)) (hV : GV P) (hC : GC P) (hpr : ∀ x y, x < gN P → y < gN P → pr (x * 60 + y) = gX P x y) (hiv : ∀ x, x < gN P → iv x = gI P x)  (hv : (xx < 2147483648) ∧ (gN P < 2147483648) ∧ (((gN P ≤ xx) → SW G (j + 1) mX1_fillMirrors 60 [some (vr (e)), some (vl (((aa : Nat) : Int))), none, some (vi (0)), none] [] (S nw nx g, 78 + gn, (em c e be le hd ls st pr iv fa eb ml mf rw dn (gR P) (gN P) mm)) B0 post) ∧ ((¬ (gN P ≤ xx)) → SW G (j + 1) mX1_fillMirrors 15 [some (vr (e)), some (vl (((aa : Nat) : Int))), none, some (vi (((xx : Nat) : Int))), some (vi (0))] [] (S nw nx g, 78 + gn, (em c e be le hd ls st pr iv fa eb ml mf rw dn (gR P) (gN P) mm)) B0 post))) :
    SW G (j + 1) mX1_fillMirrors 4 [some (vr (e)), some (vl (((aa : Nat) : Int))), none, some (vi (((xx : Nat) : Int))), none] [] (S nw nx g, 78 + gn, (em c e be le hd ls st pr iv fa eb ml mf rw dn (gR P) (gN P) mm)) B0 post := by
  refine sw_iload_n (dX1_fillMirrors.at 4 rfl) rfl rfl ?_
  refine sw_aload_n (dX1_fillMirrors.at 5 rfl) rfl rfl ?_
  refine sw_getIE (w := ((gN P : Nat) : Int)) (dX1_fillMirrors.at 6 rfl) fp_X1_59 (S_e_lt he) (S_e he) rfl em_f14 ?_
  refine sw_icmpN_ge xx (gN P) (tgt := 58) (dX1_fillMirrors.at 7 rfl) (by decide) hv.1 hv.2.1 (fun q => ?_) (fun q => ?_)
  · replace hv := hv.2.2.1 q
    refine sw_iconst (dX1_fillMirrors.at 33 rfl) ?_
    refine sw_istore_n (lo' := [some (vr (e)), some (vl (((aa : Nat) : Int))), none, some (vi (0)), none]) (dX1_fillMirrors.at 34 rfl) rfl (by decide) rfl ?_
    exact hv
  · replace hv := hv.2.2.2 q
    refine sw_iconst (dX1_fillMirrors.at 8 rfl) ?_
    refine sw_istore (lo' := [some (vr (e)), some (vl (((aa : Nat) : Int))), none, some (vi (((xx : Nat) : Int))), some (vi (0))]) (dX1_fillMirrors.at 9 rfl) (by decide) rfl ?_
    exact hv

set_option maxHeartbeats 2000000 in
set_option maxRecDepth 20000 in
theorem g_X1_fillMirrors_15 {G : GG} {j nw nx gn : Nat} {g : Nat → Sh} {c : Nat → Nat → Int} {post : Option AV → AM → Prop} {e : Nat} (he : e = 21 ∨ e = 35) {P : GD} {be : Nat → Nat} {le : Nat → Nat} {hd : Nat → Nat} {ls : Nat → Nat} {st : Nat → Int} {pr : Nat → Nat} {iv : Nat → Nat} {fa : Nat → Nat} {eb : Nat → Nat} {ml : Nat → Nat} {mf : Nat → Int} {rw : Nat → Nat} {dn : Nat → Nat} {mm : Nat} {xx : Nat} {ss : Nat} {aa : Nat} (hle : ∀ x, x < gN P → le x = gL P x) (hhd : ∀ x, x < gN P → hd x = gH P x) (hls : ∀ x, x < gN P → ls x = gA P x) (hst : ∀ x s, x < gN P → s < gR P → st (x * 5 + s) = ((gS P x s : Nat) : Int)) (hV : GV P) (hC : GC P) (hpr : ∀ x y, x < gN P → y < gN P → pr (x * 60 + y) = gX P x y) (hiv : ∀ x, x < gN P → iv x = gI P x)  (hv : (ss < 2147483648) ∧ (gR P < 2147483648) ∧ (((gR P ≤ ss) → SW G (j + 1) mX1_fillMirrors 4 [some (vr (e)), some (vl (((aa : Nat) : Int))), none, some (vi (((xx + 1 : Nat) : Int))), none] [] (S nw nx g, 78 + gn, (em c e be le hd ls st pr iv fa eb ml mf rw dn (gR P) (gN P) mm)) B0 post) ∧ ((¬ (gR P ≤ ss)) → (xx < gN P) ∧ (ss < gR P) ∧ ((xx < gN P) ∧ (xx < 60) ∧ ((gS P xx ss < gN P) ∧ (gI P xx < gN P) ∧ ((gX P (gS P xx ss) (gI P xx) < 64) ∧ (SW G (j + 1) mX1_fillMirrors 15 [some (vr (e)), some (vl (((aa ||| (1 * 2 ^ (gX P (gS P xx ss) (gI P xx))) : Nat) : Int))), none, some (vi (((xx : Nat) : Int))), some (vi (((ss + 1 : Nat) : Int)))] [] (S nw nx g, 78 + gn, (em c e be le hd ls st pr iv fa eb ml mf rw dn (gR P) (gN P) mm)) B0 post))))))) :
    SW G (j + 1) mX1_fillMirrors 15 [some (vr (e)), some (vl (((aa : Nat) : Int))), none, some (vi (((xx : Nat) : Int))), some (vi (((ss : Nat) : Int)))] [] (S nw nx g, 78 + gn, (em c e be le hd ls st pr iv fa eb ml mf rw dn (gR P) (gN P) mm)) B0 post := by
  refine sw_iload (dX1_fillMirrors.at 10 rfl) rfl ?_
  refine sw_aload_n (dX1_fillMirrors.at 11 rfl) rfl rfl ?_
  refine sw_getIE (w := ((gR P : Nat) : Int)) (dX1_fillMirrors.at 12 rfl) fp_X1_58 (S_e_lt he) (S_e he) rfl em_f13 ?_
  refine sw_icmpN_ge ss (gR P) (tgt := 52) (dX1_fillMirrors.at 13 rfl) (by decide) hv.1 hv.2.1 (fun q => ?_) (fun q => ?_)
  · replace hv := hv.2.2.1 q
    refine sw_iinc (lo' := [some (vr (e)), some (vl (((aa : Nat) : Int))), none, some (vi (((xx + 1 : Nat) : Int))), some (vi (((ss : Nat) : Int)))]) (dX1_fillMirrors.at 31 rfl) rfl (by decide) rfl ?_
    refine sw_goto (tgt := 4) (dX1_fillMirrors.at 32 rfl) (by decide) ?_
    exact sw_mask (bs := [true, true, false, true, false]) hv
  · replace hv := hv.2.2.2 q
    refine sw_lload_n (dX1_fillMirrors.at 14 rfl) rfl rfl ?_
    refine sw_lconst (z := 1) (dX1_fillMirrors.at 15 rfl) (by decide) ?_
    refine sw_aload_n (dX1_fillMirrors.at 16 rfl) rfl rfl ?_
    refine sw_aload_n (dX1_fillMirrors.at 17 rfl) rfl rfl ?_
    refine sw_iload_n (dX1_fillMirrors.at 18 rfl) rfl rfl ?_
    refine sw_iload (dX1_fillMirrors.at 19 rfl) rfl ?_
    refine sw_callV (B' := B0) (As := [vi (((xx : Nat) : Int)), vi (((ss : Nat) : Int))]) (mc := 0) (ms := 0) (dX1_fillMirrors.at 20 rfl) lk_X1_92 (S_e_lt he) (S_e he) rfl rfl (Nat.le_of_ble_eq_true rfl) rfl (Nat.le_refl _) (Nat.le_refl _) ?_
    refine c_X1_byN (x := xx) (s := ss) (j := j + 0) he hst hV hv.1 hv.2.1 ?_
    replace hv := hv.2.2
    refine sw_aload_n (dX1_fillMirrors.at 21 rfl) rfl rfl ?_
    refine sw_getR (dX1_fillMirrors.at 22 rfl) fp_X1_30 (S_e_lt he) (S_e he) rfl rfl ?_
    refine sw_iload_n (dX1_fillMirrors.at 23 rfl) rfl rfl ?_
    refine sw_ialdN xx (w := ((gI P xx : Nat) : Int)) (dX1_fillMirrors.at 24 rfl) (S_ek_lt he (by decide)) (S_e_7 he) (by decide) hv.2.1 (em_r7.trans (congrArg Int.ofNat (hiv _ hv.1))) ?_
    replace hv := hv.2.2
    refine sw_callV (B' := B0) (As := [vi (((gS P xx ss : Nat) : Int)), vi (((gI P xx : Nat) : Int))]) (mc := 0) (ms := 0) (dX1_fillMirrors.at 25 rfl) lk_X1_110 (S_e_lt he) (S_e he) rfl rfl (Nat.le_of_ble_eq_true rfl) rfl (Nat.le_refl _) (Nat.le_refl _) ?_
    refine c_X1_mulN (x := (gS P xx ss)) (y := (gI P xx)) (j := j + 0) he hpr hV hv.1 hv.2.1 ?_
    replace hv := hv.2.2
    refine sw_lshlN 1 (gX P (gS P xx ss) (gI P xx)) (dX1_fillMirrors.at 26 rfl) hv.1 ?_
    replace hv := hv.2
    refine sw_lorN aa (1 * 2 ^ (gX P (gS P xx ss) (gI P xx))) (dX1_fillMirrors.at 27 rfl) ?_
    refine sw_lstore_n (lo' := [some (vr (e)), some (vl (((aa ||| (1 * 2 ^ (gX P (gS P xx ss) (gI P xx))) : Nat) : Int))), none, some (vi (((xx : Nat) : Int))), some (vi (((ss : Nat) : Int)))]) (dX1_fillMirrors.at 28 rfl) rfl (by decide) rfl ?_
    refine sw_iinc (lo' := [some (vr (e)), some (vl (((aa ||| (1 * 2 ^ (gX P (gS P xx ss) (gI P xx))) : Nat) : Int))), none, some (vi (((xx : Nat) : Int))), some (vi (((ss + 1 : Nat) : Int)))]) (dX1_fillMirrors.at 29 rfl) rfl (by decide) rfl ?_
    refine sw_goto (tgt := 15) (dX1_fillMirrors.at 30 rfl) (by decide) ?_
    exact hv

set_option maxHeartbeats 2000000 in
set_option maxRecDepth 20000 in
theorem g_X1_fillMirrors_60 {G : GG} {j nw nx gn : Nat} {g : Nat → Sh} {c : Nat → Nat → Int} {post : Option AV → AM → Prop} {e : Nat} (he : e = 21 ∨ e = 35) {P : GD} {be : Nat → Nat} {le : Nat → Nat} {hd : Nat → Nat} {ls : Nat → Nat} {st : Nat → Int} {pr : Nat → Nat} {iv : Nat → Nat} {fa : Nat → Nat} {eb : Nat → Nat} {ml : Nat → Nat} {mf : Nat → Int} {rw : Nat → Nat} {dn : Nat → Nat} {mm : Nat} {xx : Nat} {aa : Nat} (hle : ∀ x, x < gN P → le x = gL P x) (hhd : ∀ x, x < gN P → hd x = gH P x) (hls : ∀ x, x < gN P → ls x = gA P x) (hst : ∀ x s, x < gN P → s < gR P → st (x * 5 + s) = ((gS P x s : Nat) : Int)) (hV : GV P) (hC : GC P) (hpr : ∀ x y, x < gN P → y < gN P → pr (x * 60 + y) = gX P x y) (hiv : ∀ x, x < gN P → iv x = gI P x)  (hv : (xx < 2147483648) ∧ (gN P < 2147483648) ∧ (((gN P ≤ xx) → post none (S nw nx g, 78 + gn, (em c e be le hd ls st pr iv fa eb ml mf rw dn (gR P) (gN P) mm))) ∧ ((¬ (gN P ≤ xx)) → (aa < 9223372036854775808) ∧ (xx < 64) ∧ ((((aa.testBit xx) = false) → SW G (j + 1) mX1_fillMirrors 60 [some (vr (e)), some (vl (((aa : Nat) : Int))), none, some (vi (((xx + 1 : Nat) : Int))), none] [] (S nw nx g, 78 + gn, (em c e be le hd ls st pr iv fa eb ml mf rw dn (gR P) (gN P) mm)) B0 post) ∧ (((aa.testBit xx) = true) → (mm < 60) ∧ (SW G (j + 1) mX1_fillMirrors 60 [some (vr (e)), some (vl (((aa : Nat) : Int))), none, some (vi (((xx + 1 : Nat) : Int))), none] [] (S nw nx g, 78 + gn, (em c e be le hd ls st pr iv fa eb (uN ml mm xx) mf rw dn (gR P) (gN P) (mm + 1))) B0 post)))))) :
    SW G (j + 1) mX1_fillMirrors 60 [some (vr (e)), some (vl (((aa : Nat) : Int))), none, some (vi (((xx : Nat) : Int))), none] [] (S nw nx g, 78 + gn, (em c e be le hd ls st pr iv fa eb ml mf rw dn (gR P) (gN P) mm)) B0 post := by
  refine sw_iload_n (dX1_fillMirrors.at 35 rfl) rfl rfl ?_
  refine sw_aload_n (dX1_fillMirrors.at 36 rfl) rfl rfl ?_
  refine sw_getIE (w := ((gN P : Nat) : Int)) (dX1_fillMirrors.at 37 rfl) fp_X1_59 (S_e_lt he) (S_e he) rfl em_f14 ?_
  refine sw_icmpN_ge xx (gN P) (tgt := 102) (dX1_fillMirrors.at 38 rfl) (by decide) hv.1 hv.2.1 (fun q => ?_) (fun q => ?_)
  · replace hv := hv.2.2.1 q
    exact sw_vret (dX1_fillMirrors.at 57 rfl) rfl (Nat.le_refl _) (Nat.le_refl _) hv
  · replace hv := hv.2.2.2 q
    refine sw_lload_n (dX1_fillMirrors.at 39 rfl) rfl rfl ?_
    refine sw_iload_n (dX1_fillMirrors.at 40 rfl) rfl rfl ?_
    refine sw_callN (B' := B0) (As := [vl (((aa : Nat) : Int)), vi (((xx : Nat) : Int))]) (mc := 0) (ms := 0) (dX1_fillMirrors.at 41 rfl) lk_X1_113 rfl rfl (Nat.le_of_ble_eq_true rfl) rfl (Nat.le_refl _) (Nat.le_refl _) ?_
    refine c_X8_hasBit (s := aa) (i := xx) (j := j + 0) hv.1 hv.2.1 ?_
    replace hv := hv.2.2
    refine sw_if_eq (tgt := 96) (dX1_fillMirrors.at 42 rfl) (by decide) (bz_rng _) (fun q => ?_) (fun q => ?_)
    · replace hv := hv.1 (bz_0 q)
      refine sw_iinc (lo' := [some (vr (e)), some (vl (((aa : Nat) : Int))), none, some (vi (((xx + 1 : Nat) : Int))), none]) (dX1_fillMirrors.at 55 rfl) rfl (by decide) rfl ?_
      refine sw_goto (tgt := 60) (dX1_fillMirrors.at 56 rfl) (by decide) ?_
      exact hv
    · replace hv := hv.2 (bz_n0 q)
      refine sw_aload_n (dX1_fillMirrors.at 43 rfl) rfl rfl ?_
      refine sw_getR (dX1_fillMirrors.at 44 rfl) fp_X1_39 (S_e_lt he) (S_e he) rfl rfl ?_
      refine sw_aload_n (dX1_fillMirrors.at 45 rfl) rfl rfl ?_
      refine sw_getIE (w := ((mm : Nat) : Int)) (dX1_fillMirrors.at 46 rfl) fp_X1_62 (S_e_lt he) (S_e he) rfl em_f15 ?_
      refine sw_iload_n (dX1_fillMirrors.at 47 rfl) rfl rfl ?_
      refine sw_iastN mm (dX1_fillMirrors.at 48 rfl) (S_ek_lt he (by decide)) (S_e_10 he) (by decide) hv.1 ?_
      refine SW.cg (M' := (S nw nx g, 78 + gn, (em c e be le hd ls st pr iv fa eb (uN ml mm xx) mf rw dn (gR P) (gN P) mm))) (congrArg (fun m => (S nw nx g, 78 + gn, m)) em_w10) ?_
      replace hv := hv.2
      refine sw_aload_n (dX1_fillMirrors.at 49 rfl) rfl rfl ?_
      refine sw_dup (dX1_fillMirrors.at 50 rfl) (fun _ h => by cases h) ?_
      refine sw_getIE (w := ((mm : Nat) : Int)) (dX1_fillMirrors.at 51 rfl) fp_X1_62 (S_e_lt he) (S_e he) rfl em_f15 ?_
      refine sw_iconst (dX1_fillMirrors.at 52 rfl) ?_
      refine sw_iadd (dX1_fillMirrors.at 53 rfl) ?_
      refine sw_topI (y := ((mm + 1 : Nat) : Int)) (by first | rfl | (congr 1)) ?_
      refine sw_putI (dX1_fillMirrors.at 54 rfl) fp_X1_62 (S_e_lt he) (S_e he) rfl ?_
      refine SW.cg (M' := (S nw nx g, 78 + gn, (em c e be le hd ls st pr iv fa eb (uN ml mm xx) mf rw dn (gR P) (gN P) (mm + 1)))) (congrArg (fun m => (S nw nx g, 78 + gn, m)) em_p15) ?_
      refine sw_iinc (lo' := [some (vr (e)), some (vl (((aa : Nat) : Int))), none, some (vi (((xx + 1 : Nat) : Int))), none]) (dX1_fillMirrors.at 55 rfl) rfl (by decide) rfl ?_
      refine sw_goto (tgt := 60) (dX1_fillMirrors.at 56 rfl) (by decide) ?_
      exact hv

set_option maxHeartbeats 4000000 in
theorem c_X1_fillMirrors {G : GG} {j nw nx gn : Nat} {g : Nat → Sh} {c : Nat → Nat → Int} {post : Option AV → AM → Prop} {e : Nat} {P : GD} {be : Nat → Nat} {le : Nat → Nat} {hd : Nat → Nat} {ls : Nat → Nat} {st : Nat → Int} {pr : Nat → Nat} {iv : Nat → Nat} {fa : Nat → Nat} {eb : Nat → Nat} {ml : Nat → Nat} {mf : Nat → Int} {rw : Nat → Nat} {dn : Nat → Nat} (he : e = 21 ∨ e = 35) (hle : ∀ x, x < gN P → le x = gL P x) (hhd : ∀ x, x < gN P → hd x = gH P x) (hls : ∀ x, x < gN P → ls x = gA P x) (hst : ∀ x s, x < gN P → s < gR P → st (x * 5 + s) = ((gS P x s : Nat) : Int)) (hV : GV P) (hC : GC P) (hpr : ∀ x y, x < gN P → y < gN P → pr (x * 60 + y) = gX P x y) (hiv : ∀ x, x < gN P → iv x = gI P x) (hB : FB P) (K : ∀ ml : Nat → Nat, (∀ i, i < gM P → ml i = gT P i) → post none (S nw nx g, 78 + gn, (em c e be le hd ls st pr iv fa eb ml mf rw dn (gR P) (gN P) (gM P)))) : SM G (j + 2) mX1_fillMirrors [vr (e)] (S nw nx g, 78 + gn, (em c e be le hd ls st pr iv fa eb ml mf rw dn (gR P) (gN P) 0)) 0 0 post := by
  have hN := GV_N hV
  have hR5 := GV_R hV
  have hA := mAll_lt hV
  have hA2 := lt63 hA
  have L60 : ∀ (t xx mm : Nat) (ml : Nat → Nat), xx + t = gN P → mm = cntU (fun i => (mAll P).testBit i) xx → (∀ i, i < mm → ml i = gT P i) → SW G (j + 1) mX1_fillMirrors 60 [some (vr (e)), some (vl (((mAll P : Nat) : Int))), none, some (vi (((xx : Nat) : Int))), none] [] (S nw nx g, 78 + gn, (em c e be le hd ls st pr iv fa eb ml mf rw dn (gR P) (gN P) mm)) B0 post := by
    intro t
    induction t with
    | zero =>
      intro xx mm ml hx hm h
      have e : xx = gN P := by omega
      subst e
      rw [hB.2.2.2] at hm
      subst hm
      refine g_X1_fillMirrors_60 he hle hhd hls hst hV hC hpr hiv ?_
      refine ⟨?_, ?_, ⟨fun q => ?_, fun q => ⟨?_, ?_, ⟨fun q => ?_, fun q => ⟨?_, ?_⟩⟩⟩⟩⟩
      all_goals first | omega | (exfalso; omega) | exact K _ h
    | succ t ih =>
      intro xx mm ml hx hm h
      have hcl := cntU_le (fun i => (mAll P).testBit i) xx
      refine g_X1_fillMirrors_60 he hle hhd hls hst hV hC hpr hiv ?_
      cases hb : (mAll P).testBit xx with
      | false =>
        have e : cntU (fun i => (mAll P).testBit i) (xx + 1) = cntU (fun i => (mAll P).testBit i) xx := by simp [cntU, hb]
        refine ⟨?_, ?_, ⟨fun q => ?_, fun q => ⟨?_, ?_, ⟨fun q => ?_, fun q => ⟨?_, ?_⟩⟩⟩⟩⟩
        all_goals first | omega | (exfalso; omega) | exact ih _ _ _ (by omega) (by omega) h | (exfalso; rw [hb] at *; contradiction)
      | true =>
        have e : cntU (fun i => (mAll P).testBit i) (xx + 1) = cntU (fun i => (mAll P).testBit i) xx + 1 := by simp [cntU, hb]
        have e2 := hB.2.2.1 xx (by omega) hb
        refine ⟨?_, ?_, ⟨fun q => ?_, fun q => ⟨?_, ?_, ⟨fun q => ?_, fun q => ⟨?_, ?_⟩⟩⟩⟩⟩
        all_goals first | omega | (exfalso; omega) | (exfalso; rw [hb] at *; contradiction) | skip
        refine ih _ _ _ (by omega) (by omega) (fun i hi => ?_)
        by_cases e3 : i = mm
        · rw [e3, uN, if_pos rfl, hm]; exact e2.symm
        · rw [uN, if_neg e3]; exact h i (by omega)
  have L4 : ∀ (t xx aa : Nat), xx + t = gN P → aa < 2 ^ 60 → msA P t xx aa = mAll P → SW G (j + 1) mX1_fillMirrors 4 [some (vr (e)), some (vl (((aa : Nat) : Int))), none, some (vi (((xx : Nat) : Int))), none] [] (S nw nx g, 78 + gn, (em c e be le hd ls st pr iv fa eb ml mf rw dn (gR P) (gN P) 0)) B0 post := by
    intro t
    induction t with
    | zero =>
      intro xx aa hx ha hm
      have hm2 : aa = mAll P := hm
      subst hm2
      refine g_X1_fillMirrors_4 he hle hhd hls hst hV hC hpr hiv ?_
      refine ⟨?_, ?_, ⟨fun q => ?_, fun q => ?_⟩⟩
      all_goals first | omega | (exfalso; omega) | exact L60 (gN P) 0 0 ml (by omega) rfl (fun i hi => absurd hi (by omega))
    | succ t ih =>
      intro xx aa hx ha hm
      have L15 : ∀ (u ss aa : Nat), ss + u = gR P → aa < 2 ^ 60 → msA P t (xx + 1) (msR P xx u ss aa) = mAll P → SW G (j + 1) mX1_fillMirrors 15 [some (vr (e)), some (vl (((aa : Nat) : Int))), none, some (vi (((xx : Nat) : Int))), some (vi (((ss : Nat) : Int)))] [] (S nw nx g, 78 + gn, (em c e be le hd ls st pr iv fa eb ml mf rw dn (gR P) (gN P) 0)) B0 post := by
        intro u
        induction u with
        | zero =>
          intro ss aa hs ha hm
          refine g_X1_fillMirrors_15 he hle hhd hls hst hV hC hpr hiv ?_
          refine ⟨?_, ?_, ⟨fun q => ?_, fun q => ⟨?_, ?_, ⟨?_, ?_, ⟨?_, ?_, ⟨?_, ?_⟩⟩⟩⟩⟩⟩
          all_goals first | omega | (exfalso; omega) | exact ih _ _ (by omega) ha hm
        | succ u ihu =>
          intro ss aa hs ha hm
          have h1 := hV.2.2.2.1 xx ss (by omega) (by omega)
          have h2 := (hV.2.2.1 xx (by omega)).2.2.2.1
          have h3 := hV.2.2.2.2.1 _ _ h1 h2
          have h4 : aa ||| 1 * 2 ^ gX P (gS P xx ss) (gI P xx) < 2 ^ 60 := Nat.or_lt_two_pow ha (pow60 (by omega))
          refine g_X1_fillMirrors_15 he hle hhd hls hst hV hC hpr hiv ?_
          refine ⟨?_, ?_, ⟨fun q => ?_, fun q => ⟨?_, ?_, ⟨?_, ?_, ⟨?_, ?_, ⟨?_, ?_⟩⟩⟩⟩⟩⟩
          all_goals first | omega | (exfalso; omega) | exact ihu _ _ (by omega) h4 hm
      refine g_X1_fillMirrors_4 he hle hhd hls hst hV hC hpr hiv ?_
      refine ⟨?_, ?_, ⟨fun q => ?_, fun q => ?_⟩⟩
      all_goals first | omega | (exfalso; omega) | exact L15 (gR P) 0 aa (by omega) ha hm
  refine sm_of wX1_fillMirrors rfl (Nat.le_of_ble_eq_true rfl) ?_
  refine g_X1_fillMirrors_0 he hle hhd hls hst hV hC hpr hiv ?_
  exact L4 (gN P) 0 0 (by omega) (by decide) rfl

