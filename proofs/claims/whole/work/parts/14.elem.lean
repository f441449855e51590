set_option maxHeartbeats 2000000 in
theorem c_X1_byP {G : GG} {j nw nx gn : Nat} {g : Nat → Sh} {c : Nat → Nat → Int} {post : Option AV → AM → Prop} {P : GD} {e : Nat} {x : Nat} {s : Nat} (he : e = 21 ∨ e = 35) (hE : EL c e P) (hV : GV P) (p1 : x < gN P) (p2 : s < gR P) (K : post (some (vi (((gS P x s : Nat) : Int)))) (S nw nx g, 78 + gn, c)) : SM G (j + 1) mX1_by [vr (e), vi (((x : Nat) : Int)), vi (((s : Nat) : Int))] (S nw nx g, 78 + gn, c) 0 0 post := by
  refine sm_of wX1_by rfl (Nat.le_of_ble_eq_true rfl) ?_
  refine g_X1_by_0 he ?_
  refine ⟨by have := GV_N hV; have := GV_R hV; omega, ?_⟩
  rw [hE.2.2.2.1 x s p1 p2]; exact K

set_option maxHeartbeats 2000000 in
theorem c_X1_mulP {G : GG} {j nw nx gn : Nat} {g : Nat → Sh} {c : Nat → Nat → Int} {post : Option AV → AM → Prop} {P : GD} {e : Nat} {x : Nat} {y : Nat} (he : e = 21 ∨ e = 35) (hE : EL c e P) (hV : GV P) (p1 : x < gN P) (p2 : y < gN P) (K : post (some (vi (((gX P x y : Nat) : Int)))) (S nw nx g, 78 + gn, c)) : SM G (j + 1) mX1_mul [vr (e), vi (((x : Nat) : Int)), vi (((y : Nat) : Int))] (S nw nx g, 78 + gn, c) 0 0 post := by
  refine sm_of wX1_mul rfl (Nat.le_of_ble_eq_true rfl) ?_
  refine g_X1_mul_0 he ?_
  refine ⟨by have := GV_N hV; omega, ?_⟩
  rw [hE.2.2.2.2.1 x y p1 p2]; exact K

def gBd (P : GD) (s t : Nat) : Nat := if s = t then 1 else gB P s t
set_option maxHeartbeats 2000000 in
set_option maxRecDepth 20000 in
theorem g_X1_turns_0 {G : GG} {j nw nx gn : Nat} {g : Nat → Sh} {c : Nat → Nat → Int} {post : Option AV → AM → Prop} {e : Nat} {s : Nat} {t : Nat} (he : e = 21 ∨ e = 35)  (hv : (s < 2147483648) ∧ (t < 2147483648) ∧ (((s ≠ t) → ((s * 5) + t < 25) ∧ (post (some (vi (c (e + 1) ((s * 5) + t)))) (S nw nx g, 78 + gn, c))) ∧ ((s = t) → post (some (vi (1))) (S nw nx g, 78 + gn, c)))) :
    SW G (j + 0) mX1_turns 0 [some (vr (e)), some (vi (((s : Nat) : Int))), some (vi (((t : Nat) : Int)))] [] (S nw nx g, 78 + gn, c) B0 post := by
  refine sw_iload_n (dX1_turns.at 0 rfl) rfl rfl ?_
  refine sw_iload_n (dX1_turns.at 1 rfl) rfl rfl ?_
  refine sw_icmpN_ne s t (tgt := 9) (dX1_turns.at 2 rfl) (by decide) hv.1 hv.2.1 (fun q => ?_) (fun q => ?_)
  · replace hv := hv.2.2.1 q
    refine sw_aload_n (dX1_turns.at 5 rfl) rfl rfl ?_
    refine sw_getR (dX1_turns.at 6 rfl) fp_X1_9 (S_e_lt he) (S_e he) rfl rfl ?_
    refine sw_iload_n (dX1_turns.at 7 rfl) rfl rfl ?_
    refine sw_iconst (dX1_turns.at 8 rfl) ?_
    refine sw_imul (dX1_turns.at 9 rfl) ?_
    refine sw_topI (y := ((s * 5 : Nat) : Int)) (by first | rfl | (congr 1)) ?_
    refine sw_iload_n (dX1_turns.at 10 rfl) rfl rfl ?_
    refine sw_iadd (dX1_turns.at 11 rfl) ?_
    refine sw_topI (y := (((s * 5) + t : Nat) : Int)) (by first | rfl | (congr 1)) ?_
    refine sw_ialdN ((s * 5) + t) (dX1_turns.at 12 rfl) (S_ek_lt he (by decide)) (S_e_1 he) (by decide) hv.1 rfl ?_
    replace hv := hv.2
    exact sw_iret (dX1_turns.at 13 rfl) rfl (Nat.le_refl _) (Nat.le_refl _) hv
  · replace hv := hv.2.2.2 q
    refine sw_iconst (dX1_turns.at 3 rfl) ?_
    refine sw_goto (tgt := 19) (dX1_turns.at 4 rfl) (by decide) ?_
    exact sw_iret (dX1_turns.at 13 rfl) rfl (Nat.le_refl _) (Nat.le_refl _) hv

set_option maxHeartbeats 2000000 in
theorem c_X1_turns {G : GG} {j nw nx gn : Nat} {g : Nat → Sh} {c : Nat → Nat → Int} {post : Option AV → AM → Prop} {P : GD} {e : Nat} {s : Nat} {t : Nat} (he : e = 21 ∨ e = 35) (hE : EL c e P) (hV : GV P) (p1 : s < gR P) (p2 : t < gR P) (K : post (some (vi (((gBd P s t : Nat) : Int)))) (S nw nx g, 78 + gn, c)) : SM G (j + 1) mX1_turns [vr (e), vi (((s : Nat) : Int)), vi (((t : Nat) : Int))] (S nw nx g, 78 + gn, c) 0 0 post := by
  refine sm_of wX1_turns rfl (Nat.le_of_ble_eq_true rfl) ?_
  refine g_X1_turns_0 he ?_
  have := GV_R hV
  refine ⟨by omega, by omega, fun h => ⟨by omega, ?_⟩, fun h => ?_⟩
  · rw [hE.2.1 s t p1 p2 h]; rw [gBd, if_neg h] at K; exact K
  · rw [gBd, if_pos h] at K; exact K

def gTop (P : GD) : Nat := if gN P = 0 then 0 else gL P (gN P - 1)
set_option maxHeartbeats 2000000 in
set_option maxRecDepth 20000 in
theorem g_X1_highest_0 {G : GG} {j nw nx gn : Nat} {g : Nat → Sh} {c : Nat → Nat → Int} {post : Option AV → AM → Prop} {e : Nat} (he : e = 21 ∨ e = 35) {P : GD} (hE : EL c e P) (hV : GV P)  (hv : (gN P < 2147483648) ∧ (((gN P ≠ 0) → (1 ≤ gN P) ∧ (((gN P) - 1 < gN P) ∧ (post (some (vi (((gL P ((gN P) - 1) : Nat) : Int)))) (S nw nx g, 78 + gn, c)))) ∧ ((gN P = 0) → post (some (vi (0))) (S nw nx g, 78 + gn, c)))) :
    SW G (j + 0) mX1_highest 0 [some (vr (e))] [] (S nw nx g, 78 + gn, c) B0 post := by
  refine sw_aload_n (dX1_highest.at 0 rfl) rfl rfl ?_
  refine sw_getIE (w := ((gN P : Nat) : Int)) (dX1_highest.at 1 rfl) fp_X1_59 (S_e_lt he) (S_e he) rfl (EL_N hE) ?_
  refine sw_ifN_ne (gN P) (tgt := 11) (dX1_highest.at 2 rfl) (by decide) hv.1 (fun q => ?_) (fun q => ?_)
  · replace hv := hv.2.1 q
    refine sw_aload_n (dX1_highest.at 5 rfl) rfl rfl ?_
    refine sw_getR (dX1_highest.at 6 rfl) fp_X1_15 (S_e_lt he) (S_e he) rfl rfl ?_
    refine sw_aload_n (dX1_highest.at 7 rfl) rfl rfl ?_
    refine sw_getIE (w := ((gN P : Nat) : Int)) (dX1_highest.at 8 rfl) fp_X1_59 (S_e_lt he) (S_e he) rfl (EL_N hE) ?_
    refine sw_iconst (dX1_highest.at 9 rfl) ?_
    refine sw_isub (dX1_highest.at 10 rfl) ?_
    refine sw_topI (y := (((gN P) - 1 : Nat) : Int)) (congrArg _ (Int.ofNat_sub hv.1).symm) ?_
    replace hv := hv.2
    refine sw_ialdN ((gN P) - 1) (w := ((gL P ((gN P) - 1) : Nat) : Int)) (dX1_highest.at 11 rfl) (S_ek_lt he (by decide)) (S_e_2 he) (by decide) (GV_lt hV hv.1) (EL_L hE hv.1) ?_
    replace hv := hv.2
    exact sw_iret (dX1_highest.at 12 rfl) rfl (Nat.le_refl _) (Nat.le_refl _) hv
  · replace hv := hv.2.2 q
    refine sw_iconst (dX1_highest.at 3 rfl) ?_
    refine sw_goto (tgt := 22) (dX1_highest.at 4 rfl) (by decide) ?_
    exact sw_iret (dX1_highest.at 12 rfl) rfl (Nat.le_refl _) (Nat.le_refl _) hv

set_option maxHeartbeats 2000000 in
theorem c_X1_highest {G : GG} {j nw nx gn : Nat} {g : Nat → Sh} {c : Nat → Nat → Int} {post : Option AV → AM → Prop} {P : GD} {e : Nat} (he : e = 21 ∨ e = 35) (hE : EL c e P) (hV : GV P) (K : post (some (vi (((gTop P : Nat) : Int)))) (S nw nx g, 78 + gn, c)) : SM G (j + 1) mX1_highest [vr (e)] (S nw nx g, 78 + gn, c) 0 0 post := by
  refine sm_of wX1_highest rfl (Nat.le_of_ble_eq_true rfl) ?_
  refine g_X1_highest_0 he hE hV ?_
  have := GV_N hV
  refine ⟨by omega, fun h => ?_, fun h => ?_⟩
  · rw [gTop, if_neg h] at K
    exact ⟨by omega, by omega, K⟩
  · rw [gTop, if_pos h] at K; exact K

set_option maxHeartbeats 2000000 in
set_option maxRecDepth 20000 in
theorem g_X1_descentsOn_0 {G : GG} {j nw nx gn : Nat} {g : Nat → Sh} {c : Nat → Nat → Int} {post : Option AV → AM → Prop} {e : Nat} {x : Nat} {sd : Nat} (he : e = 21 ∨ e = 35) {P : GD} (hE : EL c e P) (hV : GV P)  (hv : (sd < 2147483648) ∧ (((sd ≠ 0) → (x < gN P) ∧ (post (some (vi (((gE P x : Nat) : Int)))) (S nw nx g, 78 + gn, c))) ∧ ((sd = 0) → (x < gN P) ∧ (post (some (vi (((gF P x : Nat) : Int)))) (S nw nx g, 78 + gn, c))))) :
    SW G (j + 0) mX1_descentsOn 0 [some (vr (e)), some (vi (((x : Nat) : Int))), some (vi (((sd : Nat) : Int)))] [] (S nw nx g, 78 + gn, c) B0 post := by
  refine sw_iload_n (dX1_descentsOn.at 0 rfl) rfl rfl ?_
  refine sw_ifN_ne sd (tgt := 13) (dX1_descentsOn.at 1 rfl) (by decide) hv.1 (fun q => ?_) (fun q => ?_)
  · replace hv := hv.2.1 q
    refine sw_aload_n (dX1_descentsOn.at 7 rfl) rfl rfl ?_
    refine sw_getR (dX1_descentsOn.at 8 rfl) fp_X1_36 (S_e_lt he) (S_e he) rfl rfl ?_
    refine sw_iload_n (dX1_descentsOn.at 9 rfl) rfl rfl ?_
    refine sw_ialdN x (w := ((gE P x : Nat) : Int)) (dX1_descentsOn.at 10 rfl) (S_ek_lt he (by decide)) (S_e_9 he) (by decide) (GV_lt hV hv.1) (EL_E hE hv.1) ?_
    replace hv := hv.2
    exact sw_iret (dX1_descentsOn.at 11 rfl) rfl (Nat.le_refl _) (Nat.le_refl _) hv
  · replace hv := hv.2.2 q
    refine sw_aload_n (dX1_descentsOn.at 2 rfl) rfl rfl ?_
    refine sw_getR (dX1_descentsOn.at 3 rfl) fp_X1_33 (S_e_lt he) (S_e he) rfl rfl ?_
    refine sw_iload_n (dX1_descentsOn.at 4 rfl) rfl rfl ?_
    refine sw_ialdN x (w := ((gF P x : Nat) : Int)) (dX1_descentsOn.at 5 rfl) (S_ek_lt he (by decide)) (S_e_8 he) (by decide) (GV_lt hV hv.1) (EL_F hE hv.1) ?_
    replace hv := hv.2
    refine sw_goto (tgt := 19) (dX1_descentsOn.at 6 rfl) (by decide) ?_
    exact sw_iret (dX1_descentsOn.at 11 rfl) rfl (Nat.le_refl _) (Nat.le_refl _) hv

set_option maxHeartbeats 2000000 in
theorem c_X1_descentsOn {G : GG} {j nw nx gn : Nat} {g : Nat → Sh} {c : Nat → Nat → Int} {post : Option AV → AM → Prop} {P : GD} {e : Nat} {x : Nat} {sd : Nat} (he : e = 21 ∨ e = 35) (hE : EL c e P) (hV : GV P) (p1 : x < gN P) (p2 : sd < 2) (K : post (some (vi (((if sd = 0 then gF P x else gE P x : Nat) : Int)))) (S nw nx g, 78 + gn, c)) : SM G (j + 1) mX1_descentsOn [vr (e), vi (((x : Nat) : Int)), vi (((sd : Nat) : Int))] (S nw nx g, 78 + gn, c) 0 0 post := by
  refine sm_of wX1_descentsOn rfl (Nat.le_of_ble_eq_true rfl) ?_
  refine g_X1_descentsOn_0 he hE hV ?_
  refine ⟨by omega, fun h => ⟨p1, ?_⟩, fun h => ⟨p1, ?_⟩⟩
  · rw [if_neg h] at K; exact K
  · rw [if_pos h] at K; exact K

set_option maxHeartbeats 2000000 in
set_option maxRecDepth 20000 in
theorem g_X1_isBelow_0 {G : GG} {j nw nx gn : Nat} {g : Nat → Sh} {c : Nat → Nat → Int} {post : Option AV → AM → Prop} {e : Nat} {v : Nat} {w : Nat} (he : e = 21 ∨ e = 35) {P : GD} (hE : EL c e P) (hV : GV P)  (hv : (w < gN P) ∧ (((gD P w) < 9223372036854775808) ∧ (v < 64) ∧ (post (some (vi (bz ((gD P w).testBit v)))) (S nw nx g, 78 + gn, c)))) :
    SW G (j + 1) mX1_isBelow 0 [some (vr (e)), some (vi (((v : Nat) : Int))), some (vi (((w : Nat) : Int)))] [] (S nw nx g, 78 + gn, c) B0 post := by
  refine sw_aload_n (dX1_isBelow.at 0 rfl) rfl rfl ?_
  refine sw_getR (dX1_isBelow.at 1 rfl) fp_X1_49 (S_e_lt he) (S_e he) rfl rfl ?_
  refine sw_iload_n (dX1_isBelow.at 2 rfl) rfl rfl ?_
  refine sw_laldN w (w := ((gD P w : Nat) : Int)) (dX1_isBelow.at 3 rfl) (S_ek_lt he (by decide)) (S_e_13 he) (by decide) (GV_lt hV hv.1) (EL_D hE hv.1) ?_
  replace hv := hv.2
  refine sw_iload_n (dX1_isBelow.at 4 rfl) rfl rfl ?_
  refine sw_callN (B' := B0) (As := [vl (((gD P w : Nat) : Int)), vi (((v : Nat) : Int))]) (mc := 0) (ms := 0) (dX1_isBelow.at 5 rfl) lk_X1_113 rfl rfl (Nat.le_of_ble_eq_true rfl) rfl (Nat.le_refl _) (Nat.le_refl _) ?_
  refine c_X8_hasBit (s := (gD P w)) (i := v) (j := j + 0) hv.1 hv.2.1 ?_
  replace hv := hv.2.2
  exact sw_zret (dX1_isBelow.at 6 rfl) rfl (bz_01 _) (Nat.le_refl _) (Nat.le_refl _) hv

set_option maxHeartbeats 2000000 in
theorem c_X1_isBelow {G : GG} {j nw nx gn : Nat} {g : Nat → Sh} {c : Nat → Nat → Int} {post : Option AV → AM → Prop} {P : GD} {e : Nat} {v : Nat} {w : Nat} (he : e = 21 ∨ e = 35) (hE : EL c e P) (hV : GV P) (p1 : v < gN P) (p2 : w < gN P) (K : post (some (vi (bz ((gD P w).testBit v)))) (S nw nx g, 78 + gn, c)) : SM G (j + 2) mX1_isBelow [vr (e), vi (((v : Nat) : Int)), vi (((w : Nat) : Int))] (S nw nx g, 78 + gn, c) 0 0 post := by
  refine sm_of wX1_isBelow rfl (Nat.le_of_ble_eq_true rfl) ?_
  refine g_X1_isBelow_0 he hE hV ?_
  have := GV_N hV
  exact ⟨p2, lt63 (hV.2.2.1 w p2).2.2.2.2.2.2.2.2, by omega, K⟩

def gCov (P : GD) (v w : Nat) : Bool := decide (gL P v + 1 = gL P w) && (gD P w).testBit v
def gWk (P : GD) (v w sd : Nat) : Bool := decide (gL P w = gL P v + gL P (if sd = 0 then gX P w (gI P v) else gX P (gI P v) w))
set_option maxHeartbeats 2000000 in
set_option maxRecDepth 20000 in
theorem g_X1_isCover_0 {G : GG} {j nw nx gn : Nat} {g : Nat → Sh} {c : Nat → Nat → Int} {post : Option AV → AM → Prop} {e : Nat} {v : Nat} {w : Nat} (he : e = 21 ∨ e = 35) {P : GD} (hE : EL c e P) (hV : GV P)  (hv : (v < gN P) ∧ ((w < gN P) ∧ (((gL P v) + 1 < 2147483648) ∧ (gL P w < 2147483648) ∧ ((((gL P v) + 1 ≠ gL P w) → post (some (vi (0))) (S nw nx g, 78 + gn, c)) ∧ (((gL P v) + 1 = gL P w) → (v < gN P) ∧ (w < gN P) ∧ (((((gD P w).testBit v) = false) → post (some (vi (0))) (S nw nx g, 78 + gn, c)) ∧ ((((gD P w).testBit v) = true) → post (some (vi (1))) (S nw nx g, 78 + gn, c)))))))) :
    SW G (j + 2) mX1_isCover 0 [some (vr (e)), some (vi (((v : Nat) : Int))), some (vi (((w : Nat) : Int)))] [] (S nw nx g, 78 + gn, c) B0 post := by
  refine sw_aload_n (dX1_isCover.at 0 rfl) rfl rfl ?_
  refine sw_getR (dX1_isCover.at 1 rfl) fp_X1_15 (S_e_lt he) (S_e he) rfl rfl ?_
  refine sw_iload_n (dX1_isCover.at 2 rfl) rfl rfl ?_
  refine sw_ialdN v (w := ((gL P v : Nat) : Int)) (dX1_isCover.at 3 rfl) (S_ek_lt he (by decide)) (S_e_2 he) (by decide) (GV_lt hV hv.1) (EL_L hE hv.1) ?_
  replace hv := hv.2
  refine sw_iconst (dX1_isCover.at 4 rfl) ?_
  refine sw_iadd (dX1_isCover.at 5 rfl) ?_
  refine sw_topI (y := (((gL P v) + 1 : Nat) : Int)) (by first | rfl | (congr 1)) ?_
  refine sw_aload_n (dX1_isCover.at 6 rfl) rfl rfl ?_
  refine sw_getR (dX1_isCover.at 7 rfl) fp_X1_15 (S_e_lt he) (S_e he) rfl rfl ?_
  refine sw_iload_n (dX1_isCover.at 8 rfl) rfl rfl ?_
  refine sw_ialdN w (w := ((gL P w : Nat) : Int)) (dX1_isCover.at 9 rfl) (S_ek_lt he (by decide)) (S_e_2 he) (by decide) (GV_lt hV hv.1) (EL_L hE hv.1) ?_
  replace hv := hv.2
  refine sw_icmpN_ne ((gL P v) + 1) (gL P w) (tgt := 30) (dX1_isCover.at 10 rfl) (by decide) hv.1 hv.2.1 (fun q => ?_) (fun q => ?_)
  · replace hv := hv.2.2.1 q
    refine sw_iconst (dX1_isCover.at 18 rfl) ?_
    exact sw_zret (dX1_isCover.at 19 rfl) rfl (by decide) (Nat.le_refl _) (Nat.le_refl _) hv
  · replace hv := hv.2.2.2 q
    refine sw_aload_n (dX1_isCover.at 11 rfl) rfl rfl ?_
    refine sw_iload_n (dX1_isCover.at 12 rfl) rfl rfl ?_
    refine sw_iload_n (dX1_isCover.at 13 rfl) rfl rfl ?_
    refine sw_callV (B' := B0) (As := [vi (((v : Nat) : Int)), vi (((w : Nat) : Int))]) (mc := 0) (ms := 0) (dX1_isCover.at 14 rfl) lk_X1_125 (S_e_lt he) (S_e he) rfl rfl (Nat.le_of_ble_eq_true rfl) rfl (Nat.le_refl _) (Nat.le_refl _) ?_
    refine c_X1_isBelow (e := e) (v := v) (w := w) (j := j + 0) he hE hV hv.1 hv.2.1 ?_
    replace hv := hv.2.2
    refine sw_if_eq (tgt := 30) (dX1_isCover.at 15 rfl) (by decide) (bz_rng _) (fun q => ?_) (fun q => ?_)
    · replace hv := hv.1 (bz_0 q)
      refine sw_iconst (dX1_isCover.at 18 rfl) ?_
      exact sw_zret (dX1_isCover.at 19 rfl) rfl (by decide) (Nat.le_refl _) (Nat.le_refl _) hv
    · replace hv := hv.2 (bz_n0 q)
      refine sw_iconst (dX1_isCover.at 16 rfl) ?_
      refine sw_goto (tgt := 31) (dX1_isCover.at 17 rfl) (by decide) ?_
      exact sw_zret (dX1_isCover.at 19 rfl) rfl (by decide) (Nat.le_refl _) (Nat.le_refl _) hv

set_option maxHeartbeats 2000000 in
theorem c_X1_isCover {G : GG} {j nw nx gn : Nat} {g : Nat → Sh} {c : Nat → Nat → Int} {post : Option AV → AM → Prop} {P : GD} {e : Nat} {v : Nat} {w : Nat} (he : e = 21 ∨ e = 35) (hE : EL c e P) (hV : GV P) (p1 : v < gN P) (p2 : w < gN P) (K : post (some (vi (bz (gCov P v w)))) (S nw nx g, 78 + gn, c)) : SM G (j + 3) mX1_isCover [vr (e), vi (((v : Nat) : Int)), vi (((w : Nat) : Int))] (S nw nx g, 78 + gn, c) 0 0 post := by
  refine sm_of wX1_isCover rfl (Nat.le_of_ble_eq_true rfl) ?_
  refine g_X1_isCover_0 he hE hV ?_
  have a1 := (hV.2.2.1 v p1).1
  have a2 := (hV.2.2.1 w p2).1
  have K1 : ∀ z : Int, z = bz (gCov P v w) → post (some (vi z)) (S nw nx g, 78 + gn, c) := fun z h => h ▸ K
  refine ⟨p1, p2, by omega, by omega, fun h => K1 _ (by simp [gCov, bz, h]), fun h => ⟨p1, p2, fun h2 => K1 _ (by simp [gCov, bz, h2]), fun h2 => K1 _ (by simp [gCov, bz, h, h2])⟩⟩

set_option maxHeartbeats 2000000 in
set_option maxRecDepth 20000 in
theorem g_X1_isWeaklyBelow_0 {G : GG} {j nw nx gn : Nat} {g : Nat → Sh} {c : Nat → Nat → Int} {post : Option AV → AM → Prop} {e : Nat} {v : Nat} {w : Nat} {sd : Nat} (he : e = 21 ∨ e = 35) {P : GD} (hE : EL c e P) (hV : GV P)  (hv : (sd < 2147483648) ∧ (((sd ≠ 0) → (v < gN P) ∧ (((gI P v) < gN P) ∧ (w < gN P) ∧ ((w < gN P) ∧ ((v < gN P) ∧ ((gX P (gI P v) w < gN P) ∧ ((gL P w < 2147483648) ∧ ((gL P v) + (gL P (gX P (gI P v) w)) < 2147483648) ∧ (((gL P w ≠ (gL P v) + (gL P (gX P (gI P v) w))) → post (some (vi (0))) (S nw nx g, 78 + gn, c)) ∧ ((gL P w = (gL P v) + (gL P (gX P (gI P v) w))) → post (some (vi (1))) (S nw nx g, 78 + gn, c))))))))) ∧ ((sd = 0) → (v < gN P) ∧ ((w < gN P) ∧ ((gI P v) < gN P) ∧ ((w < gN P) ∧ ((v < gN P) ∧ ((gX P w (gI P v) < gN P) ∧ ((gL P w < 2147483648) ∧ ((gL P v) + (gL P (gX P w (gI P v))) < 2147483648) ∧ (((gL P w ≠ (gL P v) + (gL P (gX P w (gI P v)))) → post (some (vi (0))) (S nw nx g, 78 + gn, c)) ∧ ((gL P w = (gL P v) + (gL P (gX P w (gI P v)))) → post (some (vi (1))) (S nw nx g, 78 + gn, c))))))))))) :
    SW G (j + 1) mX1_isWeaklyBelow 0 [some (vr (e)), some (vi (((v : Nat) : Int))), some (vi (((w : Nat) : Int))), some (vi (((sd : Nat) : Int))), none] [] (S nw nx g, 78 + gn, c) B0 post := by
  refine sw_iload_n (dX1_isWeaklyBelow.at 0 rfl) rfl rfl ?_
  refine sw_ifN_ne sd (tgt := 18) (dX1_isWeaklyBelow.at 1 rfl) (by decide) hv.1 (fun q => ?_) (fun q => ?_)
  · replace hv := hv.2.1 q
    refine sw_aload_n (dX1_isWeaklyBelow.at 10 rfl) rfl rfl ?_
    refine sw_aload_n (dX1_isWeaklyBelow.at 11 rfl) rfl rfl ?_
    refine sw_getR (dX1_isWeaklyBelow.at 12 rfl) fp_X1_30 (S_e_lt he) (S_e he) rfl rfl ?_
    refine sw_iload_n (dX1_isWeaklyBelow.at 13 rfl) rfl rfl ?_
    refine sw_ialdN v (w := ((gI P v : Nat) : Int)) (dX1_isWeaklyBelow.at 14 rfl) (S_ek_lt he (by decide)) (S_e_7 he) (by decide) (GV_lt hV hv.1) (EL_I hE hv.1) ?_
    replace hv := hv.2
    refine sw_iload_n (dX1_isWeaklyBelow.at 15 rfl) rfl rfl ?_
    refine sw_callV (B' := B0) (As := [vi (((gI P v : Nat) : Int)), vi (((w : Nat) : Int))]) (mc := 0) (ms := 0) (dX1_isWeaklyBelow.at 16 rfl) lk_X1_110 (S_e_lt he) (S_e he) rfl rfl (Nat.le_of_ble_eq_true rfl) rfl (Nat.le_refl _) (Nat.le_refl _) ?_
    refine c_X1_mulP (e := e) (x := (gI P v)) (y := w) (j := j + 0) he hE hV hv.1 hv.2.1 ?_
    replace hv := hv.2.2
    refine sw_istore (lo' := [some (vr (e)), some (vi (((v : Nat) : Int))), some (vi (((w : Nat) : Int))), some (vi (((sd : Nat) : Int))), some (vi (((gX P (gI P v) w : Nat) : Int)))]) (dX1_isWeaklyBelow.at 17 rfl) (by decide) rfl ?_
    refine sw_aload_n (dX1_isWeaklyBelow.at 18 rfl) rfl rfl ?_
    refine sw_getR (dX1_isWeaklyBelow.at 19 rfl) fp_X1_15 (S_e_lt he) (S_e he) rfl rfl ?_
    refine sw_iload_n (dX1_isWeaklyBelow.at 20 rfl) rfl rfl ?_
    refine sw_ialdN w (w := ((gL P w : Nat) : Int)) (dX1_isWeaklyBelow.at 21 rfl) (S_ek_lt he (by decide)) (S_e_2 he) (by decide) (GV_lt hV hv.1) (EL_L hE hv.1) ?_
    replace hv := hv.2
    refine sw_aload_n (dX1_isWeaklyBelow.at 22 rfl) rfl rfl ?_
    refine sw_getR (dX1_isWeaklyBelow.at 23 rfl) fp_X1_15 (S_e_lt he) (S_e he) rfl rfl ?_
    refine sw_iload_n (dX1_isWeaklyBelow.at 24 rfl) rfl rfl ?_
    refine sw_ialdN v (w := ((gL P v : Nat) : Int)) (dX1_isWeaklyBelow.at 25 rfl) (S_ek_lt he (by decide)) (S_e_2 he) (by decide) (GV_lt hV hv.1) (EL_L hE hv.1) ?_
    replace hv := hv.2
    refine sw_aload_n (dX1_isWeaklyBelow.at 26 rfl) rfl rfl ?_
    refine sw_getR (dX1_isWeaklyBelow.at 27 rfl) fp_X1_15 (S_e_lt he) (S_e he) rfl rfl ?_
    refine sw_iload (dX1_isWeaklyBelow.at 28 rfl) rfl ?_
    refine sw_ialdN (gX P (gI P v) w) (w := ((gL P (gX P (gI P v) w) : Nat) : Int)) (dX1_isWeaklyBelow.at 29 rfl) (S_ek_lt he (by decide)) (S_e_2 he) (by decide) (GV_lt hV hv.1) (EL_L hE hv.1) ?_
    replace hv := hv.2
    refine sw_iadd (dX1_isWeaklyBelow.at 30 rfl) ?_
    refine sw_topI (y := (((gL P v) + (gL P (gX P (gI P v) w)) : Nat) : Int)) (by first | rfl | (congr 1)) ?_
    refine sw_icmpN_ne (gL P w) ((gL P v) + (gL P (gX P (gI P v) w))) (tgt := 58) (dX1_isWeaklyBelow.at 31 rfl) (by decide) hv.1 hv.2.1 (fun q => ?_) (fun q => ?_)
    · replace hv := hv.2.2.1 q
      refine sw_iconst (dX1_isWeaklyBelow.at 34 rfl) ?_
      exact sw_zret (dX1_isWeaklyBelow.at 35 rfl) rfl (by decide) (Nat.le_refl _) (Nat.le_refl _) hv
    · replace hv := hv.2.2.2 q
      refine sw_iconst (dX1_isWeaklyBelow.at 32 rfl) ?_
      refine sw_goto (tgt := 59) (dX1_isWeaklyBelow.at 33 rfl) (by decide) ?_
      exact sw_zret (dX1_isWeaklyBelow.at 35 rfl) rfl (by decide) (Nat.le_refl _) (Nat.le_refl _) hv
  · replace hv := hv.2.2 q
    refine sw_aload_n (dX1_isWeaklyBelow.at 2 rfl) rfl rfl ?_
    refine sw_iload_n (dX1_isWeaklyBelow.at 3 rfl) rfl rfl ?_
    refine sw_aload_n (dX1_isWeaklyBelow.at 4 rfl) rfl rfl ?_
    refine sw_getR (dX1_isWeaklyBelow.at 5 rfl) fp_X1_30 (S_e_lt he) (S_e he) rfl rfl ?_
    refine sw_iload_n (dX1_isWeaklyBelow.at 6 rfl) rfl rfl ?_
    refine sw_ialdN v (w := ((gI P v : Nat) : Int)) (dX1_isWeaklyBelow.at 7 rfl) (S_ek_lt he (by decide)) (S_e_7 he) (by decide) (GV_lt hV hv.1) (EL_I hE hv.1) ?_
    replace hv := hv.2
    refine sw_callV (B' := B0) (As := [vi (((w : Nat) : Int)), vi (((gI P v : Nat) : Int))]) (mc := 0) (ms := 0) (dX1_isWeaklyBelow.at 8 rfl) lk_X1_110 (S_e_lt he) (S_e he) rfl rfl (Nat.le_of_ble_eq_true rfl) rfl (Nat.le_refl _) (Nat.le_refl _) ?_
    refine c_X1_mulP (e := e) (x := w) (y := (gI P v)) (j := j + 0) he hE hV hv.1 hv.2.1 ?_
    replace hv := hv.2.2
    refine sw_goto (tgt := 29) (dX1_isWeaklyBelow.at 9 rfl) (by decide) ?_
    refine sw_istore (lo' := [some (vr (e)), some (vi (((v : Nat) : Int))), some (vi (((w : Nat) : Int))), some (vi (((sd : Nat) : Int))), some (vi (((gX P w (gI P v) : Nat) : Int)))]) (dX1_isWeaklyBelow.at 17 rfl) (by decide) rfl ?_
    refine sw_aload_n (dX1_isWeaklyBelow.at 18 rfl) rfl rfl ?_
    refine sw_getR (dX1_isWeaklyBelow.at 19 rfl) fp_X1_15 (S_e_lt he) (S_e he) rfl rfl ?_
    refine sw_iload_n (dX1_isWeaklyBelow.at 20 rfl) rfl rfl ?_
    refine sw_ialdN w (w := ((gL P w : Nat) : Int)) (dX1_isWeaklyBelow.at 21 rfl) (S_ek_lt he (by decide)) (S_e_2 he) (by decide) (GV_lt hV hv.1) (EL_L hE hv.1) ?_
    replace hv := hv.2
    refine sw_aload_n (dX1_isWeaklyBelow.at 22 rfl) rfl rfl ?_
    refine sw_getR (dX1_isWeaklyBelow.at 23 rfl) fp_X1_15 (S_e_lt he) (S_e he) rfl rfl ?_
    refine sw_iload_n (dX1_isWeaklyBelow.at 24 rfl) rfl rfl ?_
    refine sw_ialdN v (w := ((gL P v : Nat) : Int)) (dX1_isWeaklyBelow.at 25 rfl) (S_ek_lt he (by decide)) (S_e_2 he) (by decide) (GV_lt hV hv.1) (EL_L hE hv.1) ?_
    replace hv := hv.2
    refine sw_aload_n (dX1_isWeaklyBelow.at 26 rfl) rfl rfl ?_
    refine sw_getR (dX1_isWeaklyBelow.at 27 rfl) fp_X1_15 (S_e_lt he) (S_e he) rfl rfl ?_
    refine sw_iload (dX1_isWeaklyBelow.at 28 rfl) rfl ?_
    refine sw_ialdN (gX P w (gI P v)) (w := ((gL P (gX P w (gI P v)) : Nat) : Int)) (dX1_isWeaklyBelow.at 29 rfl) (S_ek_lt he (by decide)) (S_e_2 he) (by decide) (GV_lt hV hv.1) (EL_L hE hv.1) ?_
    replace hv := hv.2
    refine sw_iadd (dX1_isWeaklyBelow.at 30 rfl) ?_
    refine sw_topI (y := (((gL P v) + (gL P (gX P w (gI P v))) : Nat) : Int)) (by first | rfl | (congr 1)) ?_
    refine sw_icmpN_ne (gL P w) ((gL P v) + (gL P (gX P w (gI P v)))) (tgt := 58) (dX1_isWeaklyBelow.at 31 rfl) (by decide) hv.1 hv.2.1 (fun q => ?_) (fun q => ?_)
    · replace hv := hv.2.2.1 q
      refine sw_iconst (dX1_isWeaklyBelow.at 34 rfl) ?_
      exact sw_zret (dX1_isWeaklyBelow.at 35 rfl) rfl (by decide) (Nat.le_refl _) (Nat.le_refl _) hv
    · replace hv := hv.2.2.2 q
      refine sw_iconst (dX1_isWeaklyBelow.at 32 rfl) ?_
      refine sw_goto (tgt := 59) (dX1_isWeaklyBelow.at 33 rfl) (by decide) ?_
      exact sw_zret (dX1_isWeaklyBelow.at 35 rfl) rfl (by decide) (Nat.le_refl _) (Nat.le_refl _) hv

set_option maxHeartbeats 2000000 in
theorem c_X1_isWeaklyBelow {G : GG} {j nw nx gn : Nat} {g : Nat → Sh} {c : Nat → Nat → Int} {post : Option AV → AM → Prop} {P : GD} {e : Nat} {v : Nat} {w : Nat} {sd : Nat} (he : e = 21 ∨ e = 35) (hE : EL c e P) (hV : GV P) (p1 : v < gN P) (p2 : w < gN P) (p3 : sd < 2) (K : post (some (vi (bz (gWk P v w sd)))) (S nw nx g, 78 + gn, c)) : SM G (j + 2) mX1_isWeaklyBelow [vr (e), vi (((v : Nat) : Int)), vi (((w : Nat) : Int)), vi (((sd : Nat) : Int))] (S nw nx g, 78 + gn, c) 0 0 post := by
  refine sm_of wX1_isWeaklyBelow rfl (Nat.le_of_ble_eq_true rfl) ?_
  refine g_X1_isWeaklyBelow_0 he hE hV ?_
  have a1 := (hV.2.2.1 v p1).1
  have a2 := (hV.2.2.1 w p2).1
  have a3 := (hV.2.2.1 v p1).2.2.2.1
  have b1 := hV.2.2.2.2.1 w (gI P v) p2 a3
  have b2 := hV.2.2.2.2.1 (gI P v) w a3 p2
  have b3 := (hV.2.2.1 _ b1).1
  have b4 := (hV.2.2.1 _ b2).1
  have K1 : ∀ z : Int, z = bz (gWk P v w sd) → post (some (vi z)) (S nw nx g, 78 + gn, c) := fun z h => h ▸ K
  refine ⟨by omega, fun h => ⟨p1, a3, p2, p2, p1, b2, by omega, by omega, fun h2 => K1 _ (by simp [gWk, bz, h, h2]), fun h2 => K1 _ (by simp [gWk, bz, h, h2])⟩, fun h => ⟨p1, p2, a3, p2, p1, b1, by omega, by omega, fun h2 => K1 _ (by simp [gWk, bz, h, h2]), fun h2 => K1 _ (by simp [gWk, bz, h, h2])⟩⟩

/-- the set of what a letter makes of a set -/
def gAll (P : GD) (S s : Nat) : Nat → Nat
  | 0 => 0
  | n + 1 => if S.testBit n then gAll P S s n ||| 1 * 2 ^ gS P n s else gAll P S s n
