def vlT (nb : Nat → Nat) (n p : Nat) : Nat := vlC nb (tkT nb n p - tkF nb n p) (tkF nb n p) 0
theorem tk_dig {nb : Nat → Nat} {n p : Nat} (h : tkK nb n p = 2) : ∀ q, tkF nb n p ≤ q → q < tkT nb n p → 48 ≤ nb q ∧ nb q ≤ 57 := fun q h1 h2 => (kd_2 _).mp ((tk_kd (by omega) h1 h2).trans h)
theorem tk_let {nb : Nat → Nat} {n p : Nat} (h : tkK nb n p = 1) : ∀ q, tkF nb n p ≤ q → q < tkT nb n p → 97 ≤ nb q ∧ nb q ≤ 122 := fun q h1 h2 => (kd_1 _).mp ((tk_kd (by omega) h1 h2).trans h)
theorem vlT_le {nb : Nat → Nat} {n p : Nat} (hp : p ≤ n) (h : tkK nb n p = 2) : vlT nb n p ≤ 9999 := vlC_le nb _ _ _ (by decide) (fun q h1 h2 => tk_dig h q h1 (by have := tkT_le (nb := nb) hp; omega))
theorem tkK_le {nb : Nat → Nat} {n p : Nat} : tkK nb n p < 5 := by
  have := kd_le (nb (tkF nb n p))
  unfold tkK
  split <;> omega
/-- group's first row: fault, place, the next token, the rank -/
def rkP (nb : Nat → Nat) (n p : Nat) : Nat × Int × Nat × Nat :=
  if wdG nb (tkK nb n p) (tkF nb n p) (tkT nb n p) = false then (1, ((tkF nb n p : Nat) : Int), 0, 0)
  else if tkK nb n (tkT nb n p) ≠ 2 then (1, ((tkF nb n (tkT nb n p) : Nat) : Int), 0, 0)
  else if ¬ (1 ≤ vlT nb n (tkT nb n p) ∧ vlT nb n (tkT nb n p) ≤ 5) then (2, ((tkF nb n (tkT nb n p) : Nat) : Int), 0, 0)
  else (0, 0, tkT nb n (tkT nb n p), vlT nb n (tkT nb n p))
/-- a letter: 0: there is one -/
def ltV (nb : Nat → Nat) (n p : Nat) : Nat := nb (tkF nb n p) - 97
def ltP (nb : Nat → Nat) (n p rr : Nat) : Nat := if ¬ (tkK nb n p = 1 ∧ tkT nb n p = tkF nb n p + 1) then 1 else if rr ≤ ltV nb n p then 2 else 0
def ltQ (nb : Nat → Nat) (n p rr a : Nat) (bd : Nat → Nat) : Nat := if ¬ (tkK nb n p = 1 ∧ tkT nb n p = tkF nb n p + 1) then 1 else if rr ≤ ltV nb n p ∨ ltV nb n p = a ∨ bd (a * 5 + ltV nb n p) ≠ 0 then 2 else 0
def bnP (nb : Nat → Nat) (n p rr : Nat) (bd : Nat → Nat) : Nat × Int × Nat × (Nat → Nat) :=
  if wdB nb (tkK nb n p) (tkF nb n p) (tkT nb n p) = false then (1, ((tkF nb n p : Nat) : Int), 0, bd)
  else if ltP nb n (tkT nb n p) rr ≠ 0 then (ltP nb n (tkT nb n p) rr, ((tkF nb n (tkT nb n p) : Nat) : Int), 0, bd)
  else if ltQ nb n (tkT nb n (tkT nb n p)) rr (ltV nb n (tkT nb n p)) bd ≠ 0 then (ltQ nb n (tkT nb n (tkT nb n p)) rr (ltV nb n (tkT nb n p)) bd, ((tkF nb n (tkT nb n (tkT nb n p)) : Nat) : Int), 0, bd)
  else if tkK nb n (tkT nb n (tkT nb n (tkT nb n p))) ≠ 2 then (1, ((tkF nb n (tkT nb n (tkT nb n (tkT nb n p))) : Nat) : Int), 0, bd)
  else if ¬ (3 ≤ vlT nb n (tkT nb n (tkT nb n (tkT nb n p))) ∧ vlT nb n (tkT nb n (tkT nb n (tkT nb n p))) ≤ 12) then (2, ((tkF nb n (tkT nb n (tkT nb n (tkT nb n p))) : Nat) : Int), 0, bd)
  else (0, 0, tkT nb n (tkT nb n (tkT nb n (tkT nb n p))), uN (uN bd (ltV nb n (tkT nb n p) * 5 + ltV nb n (tkT nb n (tkT nb n p))) (vlT nb n (tkT nb n (tkT nb n (tkT nb n p))))) (ltV nb n (tkT nb n (tkT nb n p)) * 5 + ltV nb n (tkT nb n p)) (vlT nb n (tkT nb n (tkT nb n (tkT nb n p)))))

set_option maxHeartbeats 2000000 in
set_option maxRecDepth 20000 in
theorem g_X7_fail_0 {G : GG} {j nw nx gn : Nat} {g : Nat → Sh} {c : Nat → Nat → Int} {post : Option AV → AM → Prop} {w : Nat} {nb : Nat → Nat} {n : Nat} {tk : Nat} {tf : Nat} {tt : Nat} {rr : Nat} {ll : Nat} {ff : Nat} {pl : Int} {bd : Nat → Nat} (hS : c 1 1 = ((n : Nat) : Int)) (hn : n ≤ 300) (hB : ∀ i, nb i < 256) (hT : ∀ i, i < 300 → c 2 i = sb (nb i))  (hv : post none (S nw nx g, 78 + gn, (pm c tk tf tt rr ll w ((tf : Nat) : Int) bd))) :
    SW G (j + 0) mX7_fail 0 [some (vr (3)), some (vr (1)), some (vi (((w : Nat) : Int)))] [] (S nw nx g, 78 + gn, (pm c tk tf tt rr ll ff pl bd)) B0 post := by
  refine sw_aload_n (dX7_fail.at 0 rfl) rfl rfl ?_
  refine sw_iload_n (dX7_fail.at 1 rfl) rfl rfl ?_
  refine sw_putI (dX7_fail.at 2 rfl) fp_X7_27 (S_lt 3 (by decide)) (S_3 nw nx g) rfl ?_
  refine SW.cg (M' := (S nw nx g, 78 + gn, (pm c tk tf tt rr ll w pl bd))) (congrArg (fun m => (S nw nx g, 78 + gn, m)) pm_33) ?_
  refine sw_aload_n (dX7_fail.at 3 rfl) rfl rfl ?_
  refine sw_aload_n (dX7_fail.at 4 rfl) rfl rfl ?_
  refine sw_getIE (w := ((tf : Nat) : Int)) (dX7_fail.at 5 rfl) fp_X7_91 (S_lt 1 (by decide)) (S_1 nw nx g) rfl rfl ?_
  refine sw_putI (dX7_fail.at 6 rfl) fp_X7_15 (S_lt 3 (by decide)) (S_3 nw nx g) rfl ?_
  refine SW.cg (M' := (S nw nx g, 78 + gn, (pm c tk tf tt rr ll w ((tf : Nat) : Int) bd))) (congrArg (fun m => (S nw nx g, 78 + gn, m)) pm_34) ?_
  exact sw_vret (dX7_fail.at 7 rfl) rfl (Nat.le_refl _) (Nat.le_refl _) hv

theorem c_X7_fail {G : GG} {j nw nx gn : Nat} {g : Nat → Sh} {c : Nat → Nat → Int} {post : Option AV → AM → Prop} {nb : Nat → Nat} {n : Nat} {tk : Nat} {tf : Nat} {tt : Nat} {rr : Nat} {ll : Nat} {ff : Nat} {pl : Int} {bd : Nat → Nat} {w : Nat} (hS : c 1 1 = ((n : Nat) : Int)) (hn : n ≤ 300) (hB : ∀ i, nb i < 256) (hT : ∀ i, i < 300 → c 2 i = sb (nb i)) (K : post none (S nw nx g, 78 + gn, (pm c tk tf tt rr ll w ((tf : Nat) : Int) bd))) : SM G (j + 1) mX7_fail [vr (3), vr (1), vi (((w : Nat) : Int))] (S nw nx g, 78 + gn, (pm c tk tf tt rr ll ff pl bd)) 0 0 post := by
  refine sm_of wX7_fail rfl (Nat.le_of_ble_eq_true rfl) ?_
  refine g_X7_fail_0 hS hn hB hT ?_
  exact K

set_option maxHeartbeats 2000000 in
set_option maxRecDepth 20000 in
theorem g_X7_pass_i {G : GG} {j nw nx gn : Nat} {g : Nat → Sh} {c : Nat → Nat → Int} {post : Option AV → AM → Prop} {z : Int} {nb : Nat → Nat} {n : Nat} {tk : Nat} {tf : Nat} {tt : Nat} {rr : Nat} {ll : Nat} {ff : Nat} {pl : Int} {bd : Nat → Nat} (hS : c 1 1 = ((n : Nat) : Int)) (hn : n ≤ 300) (hB : ∀ i, nb i < 256) (hT : ∀ i, i < 300 → c 2 i = sb (nb i))  (hv : (ff < 2147483648) ∧ (((ff = 0) → SW G (j + 2) mX7_pass 8 [some (vr (3)), some (vr (1)), some (vi (z))] [] (S nw nx g, 78 + gn, (pm c tk tf tt rr ll ff pl bd)) B0 post) ∧ ((¬ (ff = 0)) → post none (S nw nx g, 78 + gn, (pm c tk tf tt rr ll ff pl bd))))) :
    SW G (j + 2) mX7_pass 0 [some (vr (3)), some (vr (1)), some (vi (z))] [] (S nw nx g, 78 + gn, (pm c tk tf tt rr ll ff pl bd)) B0 post := by
  refine sw_aload_n (dX7_pass.at 0 rfl) rfl rfl ?_
  refine sw_getIE (w := ((ff : Nat) : Int)) (dX7_pass.at 1 rfl) fp_X7_27 (S_lt 3 (by decide)) (S_3 nw nx g) rfl rfl ?_
  refine sw_ifN_eq ff (tgt := 8) (dX7_pass.at 2 rfl) (by decide) hv.1 (fun q => ?_) (fun q => ?_)
  · replace hv := hv.2.1 q
    exact hv
  · replace hv := hv.2.2 q
    exact sw_vret (dX7_pass.at 3 rfl) rfl (Nat.le_refl _) (Nat.le_refl _) hv

theorem c_X7_pass_bad {G : GG} {j nw nx gn : Nat} {g : Nat → Sh} {c : Nat → Nat → Int} {post : Option AV → AM → Prop} {nb : Nat → Nat} {n : Nat} {tk : Nat} {tf : Nat} {tt : Nat} {rr : Nat} {ll : Nat} {ff : Nat} {pl : Int} {bd : Nat → Nat} {z : Int} (hS : c 1 1 = ((n : Nat) : Int)) (hn : n ≤ 300) (hB : ∀ i, nb i < 256) (hT : ∀ i, i < 300 → c 2 i = sb (nb i)) (p1 : ff ≠ 0) (p2 : ff < 5) (K : post none (S nw nx g, 78 + gn, (pm c tk tf tt rr ll ff pl bd))) : SM G (j + 3) mX7_pass [vr 3, vr 1, vi z] (S nw nx g, 78 + gn, (pm c tk tf tt rr ll ff pl bd)) 0 0 post := by
  refine sm_of wX7_pass rfl (Nat.le_of_ble_eq_true rfl) ?_
  refine g_X7_pass_i hS hn hB hT ?_
  refine ⟨?_, ⟨fun q => ?_, fun q => ?_⟩⟩
  all_goals first | omega | exact K | (exfalso; omega)

set_option maxHeartbeats 2000000 in
set_option maxRecDepth 20000 in
theorem g_X7_pass_0 {G : GG} {j nw nx gn : Nat} {g : Nat → Sh} {c : Nat → Nat → Int} {post : Option AV → AM → Prop} {fz : Bool} {nb : Nat → Nat} {n : Nat} {p : Nat} {rr : Nat} {ll : Nat} {pl : Int} {bd : Nat → Nat} (hS : c 1 1 = ((n : Nat) : Int)) (hn : n ≤ 300) (hB : ∀ i, nb i < 256) (hT : ∀ i, i < 300 → c 2 i = sb (nb i))  (hv : ((fz = false) → post none (S nw nx g, 78 + gn, (pm c (tkK nb n p) (tkF nb n p) (tkT nb n p) rr ll 1 ((tkF nb n p : Nat) : Int) bd))) ∧ ((fz = true) → ((tkT nb n p) ≤ n) ∧ (post none (S nw nx g, 78 + gn, (pm c (tkK nb n (tkT nb n p)) (tkF nb n (tkT nb n p)) (tkT nb n (tkT nb n p)) rr ll 0 pl bd))))) :
    SW G (j + 2) mX7_pass 0 [some (vr (3)), some (vr (1)), some (vi (bz (fz)))] [] (S nw nx g, 78 + gn, (pm c (tkK nb n p) (tkF nb n p) (tkT nb n p) rr ll 0 pl bd)) B0 post := by
  refine sw_aload_n (dX7_pass.at 0 rfl) rfl rfl ?_
  refine sw_getIE (w := 0) (dX7_pass.at 1 rfl) fp_X7_27 (S_lt 3 (by decide)) (S_3 nw nx g) rfl rfl ?_
  refine sw_if_eq (tgt := 8) (dX7_pass.at 2 rfl) (by decide) (by decide) (fun q => ?_) (fun q => ?_)
  · clear q
    refine sw_iload_n (dX7_pass.at 4 rfl) rfl rfl ?_
    refine sw_if_eq (tgt := 19) (dX7_pass.at 5 rfl) (by decide) (bz_rng _) (fun q => ?_) (fun q => ?_)
    · replace hv := hv.1 (bz_0 q)
      refine sw_aload_n (dX7_pass.at 9 rfl) rfl rfl ?_
      refine sw_aload_n (dX7_pass.at 10 rfl) rfl rfl ?_
      refine sw_iconst (dX7_pass.at 11 rfl) ?_
      refine sw_callV (B' := B0) (As := [vr (1), vi (1)]) (mc := 0) (ms := 0) (dX7_pass.at 12 rfl) lk_X7_47 (S_lt 3 (by decide)) (S_3 nw nx g) rfl rfl (Nat.le_of_ble_eq_true rfl) rfl (Nat.le_refl _) (Nat.le_refl _) ?_
      refine c_X7_fail (w := 1) (j := j + 1) hS hn hB hT ?_
      exact sw_vret (dX7_pass.at 13 rfl) rfl (Nat.le_refl _) (Nat.le_refl _) hv
    · replace hv := hv.2 (bz_n0 q)
      refine sw_aload_n (dX7_pass.at 6 rfl) rfl rfl ?_
      refine sw_callV (B' := B0) (As := []) (mc := 0) (ms := 0) (dX7_pass.at 7 rfl) lk_X7_64 (S_lt 1 (by decide)) (S_1 nw nx g) rfl rfl (Nat.le_of_ble_eq_true rfl) rfl (Nat.le_refl _) (Nat.le_refl _) ?_
      refine c_X6_readNext (j := j + 0) hS hn hB hT hv.1 ?_
      replace hv := hv.2
      refine sw_goto (tgt := 25) (dX7_pass.at 8 rfl) (by decide) ?_
      exact sw_vret (dX7_pass.at 13 rfl) rfl (Nat.le_refl _) (Nat.le_refl _) hv
  · exact absurd q (by decide)

theorem c_X7_pass_0 {G : GG} {j nw nx gn : Nat} {g : Nat → Sh} {c : Nat → Nat → Int} {post : Option AV → AM → Prop} {nb : Nat → Nat} {n : Nat} {p : Nat} {rr : Nat} {ll : Nat} {pl : Int} {bd : Nat → Nat} {fz : Bool} (hS : c 1 1 = ((n : Nat) : Int)) (hn : n ≤ 300) (hB : ∀ i, nb i < 256) (hT : ∀ i, i < 300 → c 2 i = sb (nb i)) (hp : p ≤ n) (K1 : fz = true → post none (S nw nx g, 78 + gn, (pm c (tkK nb n (tkT nb n p)) (tkF nb n (tkT nb n p)) (tkT nb n (tkT nb n p)) rr ll 0 pl bd))) (K2 : fz = false → post none (S nw nx g, 78 + gn, (pm c (tkK nb n p) (tkF nb n p) (tkT nb n p) rr ll 1 ((tkF nb n p : Nat) : Int) bd))) : SM G (j + 3) mX7_pass [vr (3), vr (1), vi (bz (fz))] (S nw nx g, 78 + gn, (pm c (tkK nb n p) (tkF nb n p) (tkT nb n p) rr ll 0 pl bd)) 0 0 post := by
  refine sm_of wX7_pass rfl (Nat.le_of_ble_eq_true rfl) ?_
  have h1 := tkT_le (nb := nb) hp
  refine g_X7_pass_0 hS hn hB hT ?_
  refine ⟨fun q => ?_, fun q => ⟨?_, ?_⟩⟩
  all_goals first | omega | exact K1 ‹_› | exact K2 ‹_›

set_option maxHeartbeats 2000000 in
set_option maxRecDepth 20000 in
theorem g_X7_pass_t {G : GG} {j nw nx gn : Nat} {g : Nat → Sh} {c : Nat → Nat → Int} {post : Option AV → AM → Prop} {nb : Nat → Nat} {n : Nat} {p : Nat} {rr : Nat} {ll : Nat} {pl : Int} {bd : Nat → Nat} (hS : c 1 1 = ((n : Nat) : Int)) (hn : n ≤ 300) (hB : ∀ i, nb i < 256) (hT : ∀ i, i < 300 → c 2 i = sb (nb i))  (hv : ((tkT nb n p) ≤ n) ∧ (post none (S nw nx g, 78 + gn, (pm c (tkK nb n (tkT nb n p)) (tkF nb n (tkT nb n p)) (tkT nb n (tkT nb n p)) rr ll 0 pl bd)))) :
    SW G (j + 2) mX7_pass 0 [some (vr (3)), some (vr (1)), some (vi (1))] [] (S nw nx g, 78 + gn, (pm c (tkK nb n p) (tkF nb n p) (tkT nb n p) rr ll 0 pl bd)) B0 post := by
  refine sw_aload_n (dX7_pass.at 0 rfl) rfl rfl ?_
  refine sw_getIE (w := 0) (dX7_pass.at 1 rfl) fp_X7_27 (S_lt 3 (by decide)) (S_3 nw nx g) rfl rfl ?_
  refine sw_if_eq (tgt := 8) (dX7_pass.at 2 rfl) (by decide) (by decide) (fun q => ?_) (fun q => ?_)
  · clear q
    refine sw_iload_n (dX7_pass.at 4 rfl) rfl rfl ?_
    refine sw_if_eq (tgt := 19) (dX7_pass.at 5 rfl) (by decide) (by decide) (fun q => ?_) (fun q => ?_)
    · exact absurd q (by decide)
    · clear q
      refine sw_aload_n (dX7_pass.at 6 rfl) rfl rfl ?_
      refine sw_callV (B' := B0) (As := []) (mc := 0) (ms := 0) (dX7_pass.at 7 rfl) lk_X7_64 (S_lt 1 (by decide)) (S_1 nw nx g) rfl rfl (Nat.le_of_ble_eq_true rfl) rfl (Nat.le_refl _) (Nat.le_refl _) ?_
      refine c_X6_readNext (j := j + 0) hS hn hB hT hv.1 ?_
      replace hv := hv.2
      refine sw_goto (tgt := 25) (dX7_pass.at 8 rfl) (by decide) ?_
      exact sw_vret (dX7_pass.at 13 rfl) rfl (Nat.le_refl _) (Nat.le_refl _) hv
  · exact absurd q (by decide)

theorem c_X7_pass_t {G : GG} {j nw nx gn : Nat} {g : Nat → Sh} {c : Nat → Nat → Int} {post : Option AV → AM → Prop} {nb : Nat → Nat} {n : Nat} {p : Nat} {rr : Nat} {ll : Nat} {pl : Int} {bd : Nat → Nat} (hS : c 1 1 = ((n : Nat) : Int)) (hn : n ≤ 300) (hB : ∀ i, nb i < 256) (hT : ∀ i, i < 300 → c 2 i = sb (nb i)) (hp : p ≤ n) (K : post none (S nw nx g, 78 + gn, (pm c (tkK nb n (tkT nb n p)) (tkF nb n (tkT nb n p)) (tkT nb n (tkT nb n p)) rr ll 0 pl bd))) : SM G (j + 3) mX7_pass [vr (3), vr (1), vi (1)] (S nw nx g, 78 + gn, (pm c (tkK nb n p) (tkF nb n p) (tkT nb n p) rr ll 0 pl bd)) 0 0 post := by
  refine sm_of wX7_pass rfl (Nat.le_of_ble_eq_true rfl) ?_
  have h1 := tkT_le (nb := nb) hp
  refine g_X7_pass_t hS hn hB hT ?_
  refine ⟨?_, ?_⟩
  all_goals first | omega | exact K

set_option maxHeartbeats 2000000 in
set_option maxRecDepth 20000 in
theorem g_X7_pass_f {G : GG} {j nw nx gn : Nat} {g : Nat → Sh} {c : Nat → Nat → Int} {post : Option AV → AM → Prop} {nb : Nat → Nat} {n : Nat} {p : Nat} {rr : Nat} {ll : Nat} {pl : Int} {bd : Nat → Nat} (hS : c 1 1 = ((n : Nat) : Int)) (hn : n ≤ 300) (hB : ∀ i, nb i < 256) (hT : ∀ i, i < 300 → c 2 i = sb (nb i))  (hv : post none (S nw nx g, 78 + gn, (pm c (tkK nb n p) (tkF nb n p) (tkT nb n p) rr ll 1 ((tkF nb n p : Nat) : Int) bd))) :
    SW G (j + 2) mX7_pass 0 [some (vr (3)), some (vr (1)), some (vi (0))] [] (S nw nx g, 78 + gn, (pm c (tkK nb n p) (tkF nb n p) (tkT nb n p) rr ll 0 pl bd)) B0 post := by
  refine sw_aload_n (dX7_pass.at 0 rfl) rfl rfl ?_
  refine sw_getIE (w := 0) (dX7_pass.at 1 rfl) fp_X7_27 (S_lt 3 (by decide)) (S_3 nw nx g) rfl rfl ?_
  refine sw_if_eq (tgt := 8) (dX7_pass.at 2 rfl) (by decide) (by decide) (fun q => ?_) (fun q => ?_)
  · clear q
    refine sw_iload_n (dX7_pass.at 4 rfl) rfl rfl ?_
    refine sw_if_eq (tgt := 19) (dX7_pass.at 5 rfl) (by decide) (by decide) (fun q => ?_) (fun q => ?_)
    · clear q
      refine sw_aload_n (dX7_pass.at 9 rfl) rfl rfl ?_
      refine sw_aload_n (dX7_pass.at 10 rfl) rfl rfl ?_
      refine sw_iconst (dX7_pass.at 11 rfl) ?_
      refine sw_callV (B' := B0) (As := [vr (1), vi (1)]) (mc := 0) (ms := 0) (dX7_pass.at 12 rfl) lk_X7_47 (S_lt 3 (by decide)) (S_3 nw nx g) rfl rfl (Nat.le_of_ble_eq_true rfl) rfl (Nat.le_refl _) (Nat.le_refl _) ?_
      refine c_X7_fail (w := 1) (j := j + 1) hS hn hB hT ?_
      exact sw_vret (dX7_pass.at 13 rfl) rfl (Nat.le_refl _) (Nat.le_refl _) hv
    · exact absurd q (by decide)
  · exact absurd q (by decide)

theorem c_X7_pass_f {G : GG} {j nw nx gn : Nat} {g : Nat → Sh} {c : Nat → Nat → Int} {post : Option AV → AM → Prop} {nb : Nat → Nat} {n : Nat} {p : Nat} {rr : Nat} {ll : Nat} {pl : Int} {bd : Nat → Nat} (hS : c 1 1 = ((n : Nat) : Int)) (hn : n ≤ 300) (hB : ∀ i, nb i < 256) (hT : ∀ i, i < 300 → c 2 i = sb (nb i)) (hp : p ≤ n) (K : post none (S nw nx g, 78 + gn, (pm c (tkK nb n p) (tkF nb n p) (tkT nb n p) rr ll 1 ((tkF nb n p : Nat) : Int) bd))) : SM G (j + 3) mX7_pass [vr (3), vr (1), vi (0)] (S nw nx g, 78 + gn, (pm c (tkK nb n p) (tkF nb n p) (tkT nb n p) rr ll 0 pl bd)) 0 0 post := by
  refine sm_of wX7_pass rfl (Nat.le_of_ble_eq_true rfl) ?_
  have h1 := tkT_le (nb := nb) hp
  refine g_X7_pass_f hS hn hB hT ?_
  refine ?_
  all_goals first | omega | exact K

set_option maxHeartbeats 2000000 in
set_option maxRecDepth 20000 in
theorem g_X7_readNumber_b {G : GG} {j nw nx gn : Nat} {g : Nat → Sh} {c : Nat → Nat → Int} {post : Option AV → AM → Prop} {z : Int} {y : Int} {nb : Nat → Nat} {n : Nat} {tk : Nat} {tf : Nat} {tt : Nat} {rr : Nat} {ll : Nat} {ff : Nat} {pl : Int} {bd : Nat → Nat} (hS : c 1 1 = ((n : Nat) : Int)) (hn : n ≤ 300) (hB : ∀ i, nb i < 256) (hT : ∀ i, i < 300 → c 2 i = sb (nb i))  (hv : (ff < 2147483648) ∧ (((ff = 0) → SW G (j + 2) mX7_readNumber 9 [some (vr (3)), some (vr (1)), some (vi (z)), some (vi (y)), none] [] (S nw nx g, 78 + gn, (pm c tk tf tt rr ll ff pl bd)) B0 post) ∧ ((¬ (ff = 0)) → post (some (vi (0))) (S nw nx g, 78 + gn, (pm c tk tf tt rr ll ff pl bd))))) :
    SW G (j + 2) mX7_readNumber 0 [some (vr (3)), some (vr (1)), some (vi (z)), some (vi (y)), none] [] (S nw nx g, 78 + gn, (pm c tk tf tt rr ll ff pl bd)) B0 post := by
  refine sw_aload_n (dX7_readNumber.at 0 rfl) rfl rfl ?_
  refine sw_getIE (w := ((ff : Nat) : Int)) (dX7_readNumber.at 1 rfl) fp_X7_27 (S_lt 3 (by decide)) (S_3 nw nx g) rfl rfl ?_
  refine sw_ifN_eq ff (tgt := 9) (dX7_readNumber.at 2 rfl) (by decide) hv.1 (fun q => ?_) (fun q => ?_)
  · replace hv := hv.2.1 q
    exact hv
  · replace hv := hv.2.2 q
    refine sw_iconst (dX7_readNumber.at 3 rfl) ?_
    exact sw_iret (dX7_readNumber.at 4 rfl) rfl (Nat.le_refl _) (Nat.le_refl _) hv

theorem c_X7_readNumber_bad {G : GG} {j nw nx gn : Nat} {g : Nat → Sh} {c : Nat → Nat → Int} {post : Option AV → AM → Prop} {nb : Nat → Nat} {n : Nat} {tk : Nat} {tf : Nat} {tt : Nat} {rr : Nat} {ll : Nat} {ff : Nat} {pl : Int} {bd : Nat → Nat} {z y : Int} (hS : c 1 1 = ((n : Nat) : Int)) (hn : n ≤ 300) (hB : ∀ i, nb i < 256) (hT : ∀ i, i < 300 → c 2 i = sb (nb i)) (p1 : ff ≠ 0) (p2 : ff < 5) (K : post (some (vi 0)) (S nw nx g, 78 + gn, (pm c tk tf tt rr ll ff pl bd))) : SM G (j + 3) mX7_readNumber [vr 3, vr 1, vi z, vi y] (S nw nx g, 78 + gn, (pm c tk tf tt rr ll ff pl bd)) 0 0 post := by
  refine sm_of wX7_readNumber rfl (Nat.le_of_ble_eq_true rfl) ?_
  refine g_X7_readNumber_b hS hn hB hT ?_
  refine ⟨?_, ⟨fun q => ?_, fun q => ?_⟩⟩
  all_goals first | omega | exact K | (exfalso; omega)

set_option maxHeartbeats 2000000 in
set_option maxRecDepth 20000 in
theorem g_X7_readNumber_0 {G : GG} {j nw nx gn : Nat} {g : Nat → Sh} {c : Nat → Nat → Int} {post : Option AV → AM → Prop} {lo : Nat} {hi : Nat} {nb : Nat → Nat} {n : Nat} {p : Nat} {rr : Nat} {ll : Nat} {pl : Int} {bd : Nat → Nat} (hS : c 1 1 = ((n : Nat) : Int)) (hn : n ≤ 300) (hB : ∀ i, nb i < 256) (hT : ∀ i, i < 300 → c 2 i = sb (nb i))  (hv : (tkK nb n p < 2147483648) ∧ (((tkK nb n p = 2) → ((tkF nb n p) ≤ (tkT nb n p)) ∧ ((tkT nb n p) ≤ n) ∧ (∀ q, (tkF nb n p) ≤ q → q < (tkT nb n p) → 48 ≤ nb q ∧ nb q ≤ 57) ∧ ((vlC nb ((tkT nb n p) - (tkF nb n p)) (tkF nb n p) 0 < 2147483648) ∧ (lo < 2147483648) ∧ (((vlC nb ((tkT nb n p) - (tkF nb n p)) (tkF nb n p) 0 < lo) → post (some (vi (0))) (S nw nx g, 78 + gn, (pm c (tkK nb n p) (tkF nb n p) (tkT nb n p) rr ll 2 ((tkF nb n p : Nat) : Int) bd))) ∧ ((¬ (vlC nb ((tkT nb n p) - (tkF nb n p)) (tkF nb n p) 0 < lo)) → (vlC nb ((tkT nb n p) - (tkF nb n p)) (tkF nb n p) 0 < 2147483648) ∧ (hi < 2147483648) ∧ (((vlC nb ((tkT nb n p) - (tkF nb n p)) (tkF nb n p) 0 ≤ hi) → ((tkT nb n p) ≤ n) ∧ (post (some (vi (((vlC nb ((tkT nb n p) - (tkF nb n p)) (tkF nb n p) 0 : Nat) : Int)))) (S nw nx g, 78 + gn, (pm c (tkK nb n (tkT nb n p)) (tkF nb n (tkT nb n p)) (tkT nb n (tkT nb n p)) rr ll 0 pl bd)))) ∧ ((¬ (vlC nb ((tkT nb n p) - (tkF nb n p)) (tkF nb n p) 0 ≤ hi)) → post (some (vi (0))) (S nw nx g, 78 + gn, (pm c (tkK nb n p) (tkF nb n p) (tkT nb n p) rr ll 2 ((tkF nb n p : Nat) : Int) bd)))))))) ∧ ((¬ (tkK nb n p = 2)) → post (some (vi (0))) (S nw nx g, 78 + gn, (pm c (tkK nb n p) (tkF nb n p) (tkT nb n p) rr ll 1 ((tkF nb n p : Nat) : Int) bd))))) :
    SW G (j + 2) mX7_readNumber 0 [some (vr (3)), some (vr (1)), some (vi (((lo : Nat) : Int))), some (vi (((hi : Nat) : Int))), none] [] (S nw nx g, 78 + gn, (pm c (tkK nb n p) (tkF nb n p) (tkT nb n p) rr ll 0 pl bd)) B0 post := by
  refine sw_aload_n (dX7_readNumber.at 0 rfl) rfl rfl ?_
  refine sw_getIE (w := 0) (dX7_readNumber.at 1 rfl) fp_X7_27 (S_lt 3 (by decide)) (S_3 nw nx g) rfl rfl ?_
  refine sw_if_eq (tgt := 9) (dX7_readNumber.at 2 rfl) (by decide) (by decide) (fun q => ?_) (fun q => ?_)
  · clear q
    refine sw_aload_n (dX7_readNumber.at 5 rfl) rfl rfl ?_
    refine sw_getIE (w := ((tkK nb n p : Nat) : Int)) (dX7_readNumber.at 6 rfl) fp_X7_30 (S_lt 1 (by decide)) (S_1 nw nx g) rfl rfl ?_
    refine sw_iconst (dX7_readNumber.at 7 rfl) ?_
    refine sw_icmpN_eq (tkK nb n p) 2 (tgt := 25) (dX7_readNumber.at 8 rfl) (by decide) hv.1 (by decide) (fun q => ?_) (fun q => ?_)
    · replace hv := hv.2.1 q
      refine sw_aload_n (dX7_readNumber.at 15 rfl) rfl rfl ?_
      refine sw_callV (B' := B0) (As := []) (mc := 0) (ms := 0) (dX7_readNumber.at 16 rfl) lk_X7_84 (S_lt 1 (by decide)) (S_1 nw nx g) rfl rfl (Nat.le_of_ble_eq_true rfl) rfl (Nat.le_refl _) (Nat.le_refl _) ?_
      refine c_X6_value (j := j + 1) hS hn hB hT hv.1 hv.2.1 hv.2.2.1 ?_
      replace hv := hv.2.2.2
      refine sw_istore (lo' := [some (vr (3)), some (vr (1)), some (vi (((lo : Nat) : Int))), some (vi (((hi : Nat) : Int))), some (vi (((vlC nb ((tkT nb n p) - (tkF nb n p)) (tkF nb n p) 0 : Nat) : Int)))]) (dX7_readNumber.at 17 rfl) (by decide) rfl ?_
      refine sw_iload (dX7_readNumber.at 18 rfl) rfl ?_
      refine sw_iload_n (dX7_readNumber.at 19 rfl) rfl rfl ?_
      refine sw_icmpN_lt (vlC nb ((tkT nb n p) - (tkF nb n p)) (tkF nb n p) 0) lo (tgt := 43) (dX7_readNumber.at 20 rfl) (by decide) hv.1 hv.2.1 (fun q => ?_) (fun q => ?_)
      · replace hv := hv.2.2.1 q
        refine sw_aload_n (dX7_readNumber.at 24 rfl) rfl rfl ?_
        refine sw_aload_n (dX7_readNumber.at 25 rfl) rfl rfl ?_
        refine sw_iconst (dX7_readNumber.at 26 rfl) ?_
        refine sw_callV (B' := B0) (As := [vr (1), vi (2)]) (mc := 0) (ms := 0) (dX7_readNumber.at 27 rfl) lk_X7_47 (S_lt 3 (by decide)) (S_3 nw nx g) rfl rfl (Nat.le_of_ble_eq_true rfl) rfl (Nat.le_refl _) (Nat.le_refl _) ?_
        refine c_X7_fail (w := 2) (j := j + 1) hS hn hB hT ?_
        refine sw_iconst (dX7_readNumber.at 28 rfl) ?_
        exact sw_iret (dX7_readNumber.at 29 rfl) rfl (Nat.le_refl _) (Nat.le_refl _) hv
      · replace hv := hv.2.2.2 q
        refine sw_iload (dX7_readNumber.at 21 rfl) rfl ?_
        refine sw_iload_n (dX7_readNumber.at 22 rfl) rfl rfl ?_
        refine sw_icmpN_le (vlC nb ((tkT nb n p) - (tkF nb n p)) (tkF nb n p) 0) hi (tgt := 51) (dX7_readNumber.at 23 rfl) (by decide) hv.1 hv.2.1 (fun q => ?_) (fun q => ?_)
        · replace hv := hv.2.2.1 q
          refine sw_aload_n (dX7_readNumber.at 30 rfl) rfl rfl ?_
          refine sw_callV (B' := B0) (As := []) (mc := 0) (ms := 0) (dX7_readNumber.at 31 rfl) lk_X7_64 (S_lt 1 (by decide)) (S_1 nw nx g) rfl rfl (Nat.le_of_ble_eq_true rfl) rfl (Nat.le_refl _) (Nat.le_refl _) ?_
          refine c_X6_readNext (j := j + 0) hS hn hB hT hv.1 ?_
          replace hv := hv.2
          refine sw_iload (dX7_readNumber.at 32 rfl) rfl ?_
          exact sw_iret (dX7_readNumber.at 33 rfl) rfl (Nat.le_refl _) (Nat.le_refl _) hv
        · replace hv := hv.2.2.2 q
          refine sw_aload_n (dX7_readNumber.at 24 rfl) rfl rfl ?_
          refine sw_aload_n (dX7_readNumber.at 25 rfl) rfl rfl ?_
          refine sw_iconst (dX7_readNumber.at 26 rfl) ?_
          refine sw_callV (B' := B0) (As := [vr (1), vi (2)]) (mc := 0) (ms := 0) (dX7_readNumber.at 27 rfl) lk_X7_47 (S_lt 3 (by decide)) (S_3 nw nx g) rfl rfl (Nat.le_of_ble_eq_true rfl) rfl (Nat.le_refl _) (Nat.le_refl _) ?_
          refine c_X7_fail (w := 2) (j := j + 1) hS hn hB hT ?_
          refine sw_iconst (dX7_readNumber.at 28 rfl) ?_
          exact sw_iret (dX7_readNumber.at 29 rfl) rfl (Nat.le_refl _) (Nat.le_refl _) hv
    · replace hv := hv.2.2 q
      refine sw_aload_n (dX7_readNumber.at 9 rfl) rfl rfl ?_
      refine sw_aload_n (dX7_readNumber.at 10 rfl) rfl rfl ?_
      refine sw_iconst (dX7_readNumber.at 11 rfl) ?_
      refine sw_callV (B' := B0) (As := [vr (1), vi (1)]) (mc := 0) (ms := 0) (dX7_readNumber.at 12 rfl) lk_X7_47 (S_lt 3 (by decide)) (S_3 nw nx g) rfl rfl (Nat.le_of_ble_eq_true rfl) rfl (Nat.le_refl _) (Nat.le_refl _) ?_
      refine c_X7_fail (w := 1) (j := j + 1) hS hn hB hT ?_
      refine sw_iconst (dX7_readNumber.at 13 rfl) ?_
      exact sw_iret (dX7_readNumber.at 14 rfl) rfl (Nat.le_refl _) (Nat.le_refl _) hv
  · exact absurd q (by decide)

set_option maxHeartbeats 4000000 in
theorem c_X7_readNumber {G : GG} {j nw nx gn : Nat} {g : Nat → Sh} {c : Nat → Nat → Int} {post : Option AV → AM → Prop} {nb : Nat → Nat} {n : Nat} {p : Nat} {rr : Nat} {ll : Nat} {pl : Int} {bd : Nat → Nat} {lo hi : Nat} (hS : c 1 1 = ((n : Nat) : Int)) (hn : n ≤ 300) (hB : ∀ i, nb i < 256) (hT : ∀ i, i < 300 → c 2 i = sb (nb i)) (hp : p ≤ n) (p1 : lo < 100) (p2 : hi < 100) (K1 : tkK nb n p = 2 ∧ lo ≤ vlT nb n p ∧ vlT nb n p ≤ hi → post (some (vi ((vlT nb n p : Nat) : Int))) (S nw nx g, 78 + gn, (pm c (tkK nb n (tkT nb n p)) (tkF nb n (tkT nb n p)) (tkT nb n (tkT nb n p)) rr ll 0 pl bd))) (K2 : tkK nb n p ≠ 2 → post (some (vi 0)) (S nw nx g, 78 + gn, (pm c (tkK nb n p) (tkF nb n p) (tkT nb n p) rr ll 1 ((tkF nb n p : Nat) : Int) bd))) (K3 : tkK nb n p = 2 ∧ ¬ (lo ≤ vlT nb n p ∧ vlT nb n p ≤ hi) → post (some (vi 0)) (S nw nx g, 78 + gn, (pm c (tkK nb n p) (tkF nb n p) (tkT nb n p) rr ll 2 ((tkF nb n p : Nat) : Int) bd))) : SM G (j + 3) mX7_readNumber [vr (3), vr (1), vi (((lo : Nat) : Int)), vi (((hi : Nat) : Int))] (S nw nx g, 78 + gn, (pm c (tkK nb n p) (tkF nb n p) (tkT nb n p) rr ll 0 pl bd)) 0 0 post := by
  refine sm_of wX7_readNumber rfl (Nat.le_of_ble_eq_true rfl) ?_
  have h1 := tkT_le (nb := nb) hp
  have h2 := tkF_le (nb := nb) hp
  have h3 := tkK_le (nb := nb) (n := n) (p := p)
  have h5 := vlT_le (nb := nb) hp
  refine g_X7_readNumber_0 hS hn hB hT ?_
  rw [vlT] at h5 K1 K3
  refine ⟨?_, ⟨fun q => ⟨?_, ?_, ?_, ⟨?_, ?_, ⟨fun q => ?_, fun q => ⟨?_, ?_, ⟨fun q => ⟨?_, ?_⟩, fun q => ?_⟩⟩⟩⟩⟩, fun q => ?_⟩⟩
  all_goals first | omega | exact tk_dig (by omega) | exact K2 (by omega) | exact K3 ⟨by omega, by omega⟩ | exact K1 ⟨by omega, by omega, by omega⟩ | (have := h5 (by omega); omega)

set_option maxHeartbeats 2000000 in
set_option maxRecDepth 20000 in
theorem g_X7_isTold_m {G : GG} {j nw nx gn : Nat} {g : Nat → Sh} {c : Nat → Nat → Int} {post : Option AV → AM → Prop} {w : Nat} {nb : Nat → Nat} {n : Nat} {tk : Nat} {tf : Nat} {tt : Nat} {rr : Nat} {ll : Nat} {ff : Nat} {pl : Int} {bd : Nat → Nat} (hS : c 1 1 = ((n : Nat) : Int)) (hn : n ≤ 300) (hB : ∀ i, nb i < 256) (hT : ∀ i, i < 300 → c 2 i = sb (nb i))  (hv : post (some (vi (0))) (S nw nx g, 78 + gn, (pm c tk tf tt rr ll ff pl bd))) :
    SW G (j + 0) mX7_isTold 0 [some (vr (3)), some (vi ((-1))), some (vi (((w : Nat) : Int)))] [] (S nw nx g, 78 + gn, (pm c tk tf tt rr ll ff pl bd)) B0 post := by
  refine sw_iload_n (dX7_isTold.at 0 rfl) rfl rfl ?_
  refine sw_iconst (dX7_isTold.at 1 rfl) ?_
  refine sw_icmp_eq (tgt := 22) (dX7_isTold.at 2 rfl) (by decide) (by decide) (by decide) (fun q => ?_) (fun q => ?_)
  · clear q
    refine sw_iconst (dX7_isTold.at 14 rfl) ?_
    exact sw_zret (dX7_isTold.at 15 rfl) rfl (by decide) (Nat.le_refl _) (Nat.le_refl _) hv
  · exact absurd q (by decide)

set_option maxHeartbeats 2000000 in
set_option maxRecDepth 20000 in
theorem g_X7_isTold_n {G : GG} {j nw nx gn : Nat} {g : Nat → Sh} {c : Nat → Nat → Int} {post : Option AV → AM → Prop} {v : Nat} {w : Nat} {nb : Nat → Nat} {n : Nat} {tk : Nat} {tf : Nat} {tt : Nat} {rr : Nat} {ll : Nat} {ff : Nat} {pl : Int} {bd : Nat → Nat} (hS : c 1 1 = ((n : Nat) : Int)) (hn : n ≤ 300) (hB : ∀ i, nb i < 256) (hT : ∀ i, i < 300 → c 2 i = sb (nb i))  (hv : (v < 2147483648) ∧ (((((v : Nat) : Int) = (-1)) → post (some (vi (0))) (S nw nx g, 78 + gn, (pm c tk tf tt rr ll ff pl bd))) ∧ ((¬ (((v : Nat) : Int) = (-1))) → ((v * 5) + w < 25) ∧ ((bd ((v * 5) + w) < 2147483648) ∧ (((bd ((v * 5) + w) = 0) → post (some (vi (0))) (S nw nx g, 78 + gn, (pm c tk tf tt rr ll ff pl bd))) ∧ ((¬ (bd ((v * 5) + w) = 0)) → post (some (vi (1))) (S nw nx g, 78 + gn, (pm c tk tf tt rr ll ff pl bd)))))))) :
    SW G (j + 0) mX7_isTold 0 [some (vr (3)), some (vi (((v : Nat) : Int))), some (vi (((w : Nat) : Int)))] [] (S nw nx g, 78 + gn, (pm c tk tf tt rr ll ff pl bd)) B0 post := by
  refine sw_iload_n (dX7_isTold.at 0 rfl) rfl rfl ?_
  refine sw_iconst (dX7_isTold.at 1 rfl) ?_
  refine sw_icmp_eq (tgt := 22) (dX7_isTold.at 2 rfl) (by decide) (nrng hv.1) (by decide) (fun q => ?_) (fun q => ?_)
  · replace hv := hv.2.1 q
    refine sw_iconst (dX7_isTold.at 14 rfl) ?_
    exact sw_zret (dX7_isTold.at 15 rfl) rfl (by decide) (Nat.le_refl _) (Nat.le_refl _) hv
  · replace hv := hv.2.2 q
    refine sw_aload_n (dX7_isTold.at 3 rfl) rfl rfl ?_
    refine sw_getR (dX7_isTold.at 4 rfl) fp_X7_9 (S_lt 3 (by decide)) (S_3 nw nx g) rfl rfl ?_
    refine sw_iload_n (dX7_isTold.at 5 rfl) rfl rfl ?_
    refine sw_iconst (dX7_isTold.at 6 rfl) ?_
    refine sw_imul (dX7_isTold.at 7 rfl) ?_
    refine sw_topI (y := ((v * 5 : Nat) : Int)) (by first | rfl | (congr 1)) ?_
    refine sw_iload_n (dX7_isTold.at 8 rfl) rfl rfl ?_
    refine sw_iadd (dX7_isTold.at 9 rfl) ?_
    refine sw_topI (y := (((v * 5) + w : Nat) : Int)) (by first | rfl | (congr 1)) ?_
    refine sw_ialdN ((v * 5) + w) (w := ((bd ((v * 5) + w) : Nat) : Int)) (dX7_isTold.at 10 rfl) (S_lt 4 (by decide)) (S_4 nw nx g) (by decide) hv.1 (pm_r4 c tk tf tt rr ll ff pl bd hv.1) ?_
    replace hv := hv.2
    refine sw_ifN_eq (bd ((v * 5) + w)) (tgt := 22) (dX7_isTold.at 11 rfl) (by decide) hv.1 (fun q => ?_) (fun q => ?_)
    · replace hv := hv.2.1 q
      refine sw_iconst (dX7_isTold.at 14 rfl) ?_
      exact sw_zret (dX7_isTold.at 15 rfl) rfl (by decide) (Nat.le_refl _) (Nat.le_refl _) hv
    · replace hv := hv.2.2 q
      refine sw_iconst (dX7_isTold.at 12 rfl) ?_
      refine sw_goto (tgt := 23) (dX7_isTold.at 13 rfl) (by decide) ?_
      exact sw_zret (dX7_isTold.at 15 rfl) rfl (by decide) (Nat.le_refl _) (Nat.le_refl _) hv

theorem c_X7_isTold_m {G : GG} {j nw nx gn : Nat} {g : Nat → Sh} {c : Nat → Nat → Int} {post : Option AV → AM → Prop} {nb : Nat → Nat} {n : Nat} {tk : Nat} {tf : Nat} {tt : Nat} {rr : Nat} {ll : Nat} {ff : Nat} {pl : Int} {bd : Nat → Nat} {w : Nat} (hS : c 1 1 = ((n : Nat) : Int)) (hn : n ≤ 300) (hB : ∀ i, nb i < 256) (hT : ∀ i, i < 300 → c 2 i = sb (nb i)) (K : post (some (vi 0)) (S nw nx g, 78 + gn, (pm c tk tf tt rr ll ff pl bd))) : SM G (j + 1) mX7_isTold [vr 3, vi (-1), vi ((w : Nat) : Int)] (S nw nx g, 78 + gn, (pm c tk tf tt rr ll ff pl bd)) 0 0 post := by
  refine sm_of wX7_isTold rfl (Nat.le_of_ble_eq_true rfl) ?_
  refine g_X7_isTold_m hS hn hB hT ?_
  refine ?_
  all_goals first | exact K | omega
theorem c_X7_isTold_n {G : GG} {j nw nx gn : Nat} {g : Nat → Sh} {c : Nat → Nat → Int} {post : Option AV → AM → Prop} {nb : Nat → Nat} {n : Nat} {tk : Nat} {tf : Nat} {tt : Nat} {rr : Nat} {ll : Nat} {ff : Nat} {pl : Int} {bd : Nat → Nat} {v w : Nat} (hS : c 1 1 = ((n : Nat) : Int)) (hn : n ≤ 300) (hB : ∀ i, nb i < 256) (hT : ∀ i, i < 300 → c 2 i = sb (nb i)) (p1 : v * 5 + w < 25) (p2 : bd (v * 5 + w) < 100) (K : post (some (vi (bz (decide (bd (v * 5 + w) ≠ 0))))) (S nw nx g, 78 + gn, (pm c tk tf tt rr ll ff pl bd))) : SM G (j + 1) mX7_isTold [vr 3, vi ((v : Nat) : Int), vi ((w : Nat) : Int)] (S nw nx g, 78 + gn, (pm c tk tf tt rr ll ff pl bd)) 0 0 post := by
  refine sm_of wX7_isTold rfl (Nat.le_of_ble_eq_true rfl) ?_
  have K1 : ∀ z : Int, z = bz (decide (bd (v * 5 + w) ≠ 0)) → post (some (vi z)) (S nw nx g, 78 + gn, (pm c tk tf tt rr ll ff pl bd)) := fun z h => h ▸ K
  refine g_X7_isTold_n hS hn hB hT ?_
  refine ⟨?_, ⟨fun q => ?_, fun q => ⟨?_, ⟨?_, ⟨fun q => ?_, fun q => ?_⟩⟩⟩⟩⟩
  all_goals first | omega | (refine K1 _ ?_; simp [bz, *]; done)

set_option maxHeartbeats 2000000 in
set_option maxRecDepth 20000 in
theorem g_X7_readLetter_b {G : GG} {j nw nx gn : Nat} {g : Nat → Sh} {c : Nat → Nat → Int} {post : Option AV → AM → Prop} {z : Int} {nb : Nat → Nat} {n : Nat} {tk : Nat} {tf : Nat} {tt : Nat} {rr : Nat} {ll : Nat} {ff : Nat} {pl : Int} {bd : Nat → Nat} (hS : c 1 1 = ((n : Nat) : Int)) (hn : n ≤ 300) (hB : ∀ i, nb i < 256) (hT : ∀ i, i < 300 → c 2 i = sb (nb i))  (hv : (ff < 2147483648) ∧ (((ff = 0) → SW G (j + 2) mX7_readLetter 9 [some (vr (3)), some (vr (1)), some (vi (z)), none] [] (S nw nx g, 78 + gn, (pm c tk tf tt rr ll ff pl bd)) B0 post) ∧ ((¬ (ff = 0)) → post (some (vi (0))) (S nw nx g, 78 + gn, (pm c tk tf tt rr ll ff pl bd))))) :
    SW G (j + 2) mX7_readLetter 0 [some (vr (3)), some (vr (1)), some (vi (z)), none] [] (S nw nx g, 78 + gn, (pm c tk tf tt rr ll ff pl bd)) B0 post := by
  refine sw_aload_n (dX7_readLetter.at 0 rfl) rfl rfl ?_
  refine sw_getIE (w := ((ff : Nat) : Int)) (dX7_readLetter.at 1 rfl) fp_X7_27 (S_lt 3 (by decide)) (S_3 nw nx g) rfl rfl ?_
  refine sw_ifN_eq ff (tgt := 9) (dX7_readLetter.at 2 rfl) (by decide) hv.1 (fun q => ?_) (fun q => ?_)
  · replace hv := hv.2.1 q
    exact hv
  · replace hv := hv.2.2 q
    refine sw_iconst (dX7_readLetter.at 3 rfl) ?_
    exact sw_iret (dX7_readLetter.at 4 rfl) rfl (Nat.le_refl _) (Nat.le_refl _) hv

theorem c_X7_readLetter_bad {G : GG} {j nw nx gn : Nat} {g : Nat → Sh} {c : Nat → Nat → Int} {post : Option AV → AM → Prop} {nb : Nat → Nat} {n : Nat} {tk : Nat} {tf : Nat} {tt : Nat} {rr : Nat} {ll : Nat} {ff : Nat} {pl : Int} {bd : Nat → Nat} {z : Int} (hS : c 1 1 = ((n : Nat) : Int)) (hn : n ≤ 300) (hB : ∀ i, nb i < 256) (hT : ∀ i, i < 300 → c 2 i = sb (nb i)) (p1 : ff ≠ 0) (p2 : ff < 5) (K : post (some (vi 0)) (S nw nx g, 78 + gn, (pm c tk tf tt rr ll ff pl bd))) : SM G (j + 3) mX7_readLetter [vr 3, vr 1, vi z] (S nw nx g, 78 + gn, (pm c tk tf tt rr ll ff pl bd)) 0 0 post := by
  refine sm_of wX7_readLetter rfl (Nat.le_of_ble_eq_true rfl) ?_
  refine g_X7_readLetter_b hS hn hB hT ?_
  refine ⟨?_, ⟨fun q => ?_, fun q => ?_⟩⟩
  all_goals first | omega | exact K | (exfalso; omega)

set_option maxHeartbeats 2000000 in
set_option maxRecDepth 20000 in
theorem g_X7_readLetter_m {G : GG} {j nw nx gn : Nat} {g : Nat → Sh} {c : Nat → Nat → Int} {post : Option AV → AM → Prop} {nb : Nat → Nat} {n : Nat} {p : Nat} {rr : Nat} {ll : Nat} {pl : Int} {bd : Nat → Nat} (hS : c 1 1 = ((n : Nat) : Int)) (hn : n ≤ 300) (hB : ∀ i, nb i < 256) (hT : ∀ i, i < 300 → c 2 i = sb (nb i))  (hv : (tkK nb n p < 2147483648) ∧ (((tkK nb n p ≠ 1) → post (some (vi (0))) (S nw nx g, 78 + gn, (pm c (tkK nb n p) (tkF nb n p) (tkT nb n p) rr ll 1 ((tkF nb n p : Nat) : Int) bd))) ∧ ((tkK nb n p = 1) → (tkF nb n p ≤ tkT nb n p) ∧ (((tkT nb n p) - (tkF nb n p) < 2147483648) ∧ ((((tkT nb n p) - (tkF nb n p) = 1) → (tkF nb n p < 300) ∧ (nb (tkF nb n p) < 128) ∧ ((97 ≤ nb (tkF nb n p)) ∧ (((nb (tkF nb n p)) - 97 < 2147483648) ∧ (rr < 2147483648) ∧ (((rr ≤ (nb (tkF nb n p)) - 97) → post (some (vi (0))) (S nw nx g, 78 + gn, (pm c (tkK nb n p) (tkF nb n p) (tkT nb n p) rr ll 2 ((tkF nb n p : Nat) : Int) bd))) ∧ ((¬ (rr ≤ (nb (tkF nb n p)) - 97)) → ((nb (tkF nb n p)) - 97 < 2147483648) ∧ ((((((nb (tkF nb n p)) - 97 : Nat) : Int) = (-1)) → post (some (vi (0))) (S nw nx g, 78 + gn, (pm c (tkK nb n p) (tkF nb n p) (tkT nb n p) rr ll 2 ((tkF nb n p : Nat) : Int) bd))) ∧ ((¬ ((((nb (tkF nb n p)) - 97 : Nat) : Int) = (-1))) → ((tkT nb n p) ≤ n) ∧ (post (some (vi ((((nb (tkF nb n p)) - 97 : Nat) : Int)))) (S nw nx g, 78 + gn, (pm c (tkK nb n (tkT nb n p)) (tkF nb n (tkT nb n p)) (tkT nb n (tkT nb n p)) rr ll 0 pl bd)))))))))) ∧ ((¬ ((tkT nb n p) - (tkF nb n p) = 1)) → post (some (vi (0))) (S nw nx g, 78 + gn, (pm c (tkK nb n p) (tkF nb n p) (tkT nb n p) rr ll 1 ((tkF nb n p : Nat) : Int) bd)))))))) :
    SW G (j + 2) mX7_readLetter 0 [some (vr (3)), some (vr (1)), some (vi ((-1))), none] [] (S nw nx g, 78 + gn, (pm c (tkK nb n p) (tkF nb n p) (tkT nb n p) rr ll 0 pl bd)) B0 post := by
  refine sw_aload_n (dX7_readLetter.at 0 rfl) rfl rfl ?_
  refine sw_getIE (w := 0) (dX7_readLetter.at 1 rfl) fp_X7_27 (S_lt 3 (by decide)) (S_3 nw nx g) rfl rfl ?_
  refine sw_if_eq (tgt := 9) (dX7_readLetter.at 2 rfl) (by decide) (by decide) (fun q => ?_) (fun q => ?_)
  · clear q
    refine sw_aload_n (dX7_readLetter.at 5 rfl) rfl rfl ?_
    refine sw_getIE (w := ((tkK nb n p : Nat) : Int)) (dX7_readLetter.at 6 rfl) fp_X7_30 (S_lt 1 (by decide)) (S_1 nw nx g) rfl rfl ?_
    refine sw_iconst (dX7_readLetter.at 7 rfl) ?_
    refine sw_icmpN_ne (tkK nb n p) 1 (tgt := 30) (dX7_readLetter.at 8 rfl) (by decide) hv.1 (by decide) (fun q => ?_) (fun q => ?_)
    · replace hv := hv.2.1 q
      refine sw_aload_n (dX7_readLetter.at 16 rfl) rfl rfl ?_
      refine sw_aload_n (dX7_readLetter.at 17 rfl) rfl rfl ?_
      refine sw_iconst (dX7_readLetter.at 18 rfl) ?_
      refine sw_callV (B' := B0) (As := [vr (1), vi (1)]) (mc := 0) (ms := 0) (dX7_readLetter.at 19 rfl) lk_X7_47 (S_lt 3 (by decide)) (S_3 nw nx g) rfl rfl (Nat.le_of_ble_eq_true rfl) rfl (Nat.le_refl _) (Nat.le_refl _) ?_
      refine c_X7_fail (w := 1) (j := j + 1) hS hn hB hT ?_
      refine sw_iconst (dX7_readLetter.at 20 rfl) ?_
      exact sw_iret (dX7_readLetter.at 21 rfl) rfl (Nat.le_refl _) (Nat.le_refl _) hv
    · replace hv := hv.2.2 q
      refine sw_aload_n (dX7_readLetter.at 9 rfl) rfl rfl ?_
      refine sw_getIE (w := ((tkT nb n p : Nat) : Int)) (dX7_readLetter.at 10 rfl) fp_X7_88 (S_lt 1 (by decide)) (S_1 nw nx g) rfl rfl ?_
      refine sw_aload_n (dX7_readLetter.at 11 rfl) rfl rfl ?_
      refine sw_getIE (w := ((tkF nb n p : Nat) : Int)) (dX7_readLetter.at 12 rfl) fp_X7_91 (S_lt 1 (by decide)) (S_1 nw nx g) rfl rfl ?_
      refine sw_isub (dX7_readLetter.at 13 rfl) ?_
      refine sw_topI (y := (((tkT nb n p) - (tkF nb n p) : Nat) : Int)) (congrArg _ (Int.ofNat_sub hv.1).symm) ?_
      replace hv := hv.2
      refine sw_iconst (dX7_readLetter.at 14 rfl) ?_
      refine sw_icmpN_eq ((tkT nb n p) - (tkF nb n p)) 1 (tgt := 38) (dX7_readLetter.at 15 rfl) (by decide) hv.1 (by decide) (fun q => ?_) (fun q => ?_)
      · replace hv := hv.2.1 q
        refine sw_aload_n (dX7_readLetter.at 22 rfl) rfl rfl ?_
        refine sw_getR (dX7_readLetter.at 23 rfl) fp_X7_94 (S_lt 1 (by decide)) (S_1 nw nx g) rfl rfl ?_
        refine sw_aload_n (dX7_readLetter.at 24 rfl) rfl rfl ?_
        refine sw_getIE (w := ((tkF nb n p : Nat) : Int)) (dX7_readLetter.at 25 rfl) fp_X7_91 (S_lt 1 (by decide)) (S_1 nw nx g) rfl rfl ?_
        refine sw_baldN (tkF nb n p) (w := ((nb (tkF nb n p) : Nat) : Int)) (dX7_readLetter.at 26 rfl) (S_lt 2 (by decide)) (S_2 nw nx g) (by decide) hv.1 ((hT _ hv.1).trans (if_pos hv.2.1)) ?_
        replace hv := hv.2.2
        refine sw_bipush (dX7_readLetter.at 27 rfl) (by decide) ?_
        refine sw_isub (dX7_readLetter.at 28 rfl) ?_
        refine sw_topI (y := (((nb (tkF nb n p)) - 97 : Nat) : Int)) (congrArg _ (Int.ofNat_sub hv.1).symm) ?_
        replace hv := hv.2
        refine sw_istore_n (lo' := [some (vr (3)), some (vr (1)), some (vi ((-1))), some (vi ((((nb (tkF nb n p)) - 97 : Nat) : Int)))]) (dX7_readLetter.at 29 rfl) rfl (by decide) rfl ?_
        refine sw_iload_n (dX7_readLetter.at 30 rfl) rfl rfl ?_
        refine sw_aload_n (dX7_readLetter.at 31 rfl) rfl rfl ?_
        refine sw_getIE (w := ((rr : Nat) : Int)) (dX7_readLetter.at 32 rfl) fp_X7_67 (S_lt 3 (by decide)) (S_3 nw nx g) rfl rfl ?_
        refine sw_icmpN_ge ((nb (tkF nb n p)) - 97) rr (tgt := 73) (dX7_readLetter.at 33 rfl) (by decide) hv.1 hv.2.1 (fun q => ?_) (fun q => ?_)
        · replace hv := hv.2.2.1 q
          refine sw_aload_n (dX7_readLetter.at 42 rfl) rfl rfl ?_
          refine sw_aload_n (dX7_readLetter.at 43 rfl) rfl rfl ?_
          refine sw_iconst (dX7_readLetter.at 44 rfl) ?_
          refine sw_callV (B' := B0) (As := [vr (1), vi (2)]) (mc := 0) (ms := 0) (dX7_readLetter.at 45 rfl) lk_X7_47 (S_lt 3 (by decide)) (S_3 nw nx g) rfl rfl (Nat.le_of_ble_eq_true rfl) rfl (Nat.le_refl _) (Nat.le_refl _) ?_
          refine c_X7_fail (w := 2) (j := j + 1) hS hn hB hT ?_
          refine sw_iconst (dX7_readLetter.at 46 rfl) ?_
          exact sw_iret (dX7_readLetter.at 47 rfl) rfl (Nat.le_refl _) (Nat.le_refl _) hv
        · replace hv := hv.2.2.2 q
          refine sw_iload_n (dX7_readLetter.at 34 rfl) rfl rfl ?_
          refine sw_iload_n (dX7_readLetter.at 35 rfl) rfl rfl ?_
          refine sw_icmp_eq (tgt := 73) (dX7_readLetter.at 36 rfl) (by decide) (nrng hv.1) (by decide) (fun q => ?_) (fun q => ?_)
          · replace hv := hv.2.1 q
            refine sw_aload_n (dX7_readLetter.at 42 rfl) rfl rfl ?_
            refine sw_aload_n (dX7_readLetter.at 43 rfl) rfl rfl ?_
            refine sw_iconst (dX7_readLetter.at 44 rfl) ?_
            refine sw_callV (B' := B0) (As := [vr (1), vi (2)]) (mc := 0) (ms := 0) (dX7_readLetter.at 45 rfl) lk_X7_47 (S_lt 3 (by decide)) (S_3 nw nx g) rfl rfl (Nat.le_of_ble_eq_true rfl) rfl (Nat.le_refl _) (Nat.le_refl _) ?_
            refine c_X7_fail (w := 2) (j := j + 1) hS hn hB hT ?_
            refine sw_iconst (dX7_readLetter.at 46 rfl) ?_
            exact sw_iret (dX7_readLetter.at 47 rfl) rfl (Nat.le_refl _) (Nat.le_refl _) hv
          · replace hv := hv.2.2 q
            refine sw_aload_n (dX7_readLetter.at 37 rfl) rfl rfl ?_
            refine sw_iload_n (dX7_readLetter.at 38 rfl) rfl rfl ?_
            refine sw_iload_n (dX7_readLetter.at 39 rfl) rfl rfl ?_
            refine sw_callV (B' := B0) (As := [vi ((-1)), vi ((((nb (tkF nb n p)) - 97 : Nat) : Int))]) (mc := 0) (ms := 0) (dX7_readLetter.at 40 rfl) lk_X7_98 (S_lt 3 (by decide)) (S_3 nw nx g) rfl rfl (Nat.le_of_ble_eq_true rfl) rfl (Nat.le_refl _) (Nat.le_refl _) ?_
            refine c_X7_isTold_m (w := ((nb (tkF nb n p)) - 97)) (j := j + 1) hS hn hB hT ?_
            refine sw_if_eq (tgt := 81) (dX7_readLetter.at 41 rfl) (by decide) (by decide) (fun q => ?_) (fun q => ?_)
            · clear q
              refine sw_aload_n (dX7_readLetter.at 48 rfl) rfl rfl ?_
              refine sw_callV (B' := B0) (As := []) (mc := 0) (ms := 0) (dX7_readLetter.at 49 rfl) lk_X7_64 (S_lt 1 (by decide)) (S_1 nw nx g) rfl rfl (Nat.le_of_ble_eq_true rfl) rfl (Nat.le_refl _) (Nat.le_refl _) ?_
              refine c_X6_readNext (j := j + 0) hS hn hB hT hv.1 ?_
              replace hv := hv.2
              refine sw_iload_n (dX7_readLetter.at 50 rfl) rfl rfl ?_
              exact sw_iret (dX7_readLetter.at 51 rfl) rfl (Nat.le_refl _) (Nat.le_refl _) hv
            · exact absurd q (by decide)
      · replace hv := hv.2.2 q
        refine sw_aload_n (dX7_readLetter.at 16 rfl) rfl rfl ?_
        refine sw_aload_n (dX7_readLetter.at 17 rfl) rfl rfl ?_
        refine sw_iconst (dX7_readLetter.at 18 rfl) ?_
        refine sw_callV (B' := B0) (As := [vr (1), vi (1)]) (mc := 0) (ms := 0) (dX7_readLetter.at 19 rfl) lk_X7_47 (S_lt 3 (by decide)) (S_3 nw nx g) rfl rfl (Nat.le_of_ble_eq_true rfl) rfl (Nat.le_refl _) (Nat.le_refl _) ?_
        refine c_X7_fail (w := 1) (j := j + 1) hS hn hB hT ?_
        refine sw_iconst (dX7_readLetter.at 20 rfl) ?_
        exact sw_iret (dX7_readLetter.at 21 rfl) rfl (Nat.le_refl _) (Nat.le_refl _) hv
  · exact absurd q (by decide)

set_option maxHeartbeats 4000000 in
theorem c_X7_readLetter_m {G : GG} {j nw nx gn : Nat} {g : Nat → Sh} {c : Nat → Nat → Int} {post : Option AV → AM → Prop} {nb : Nat → Nat} {n : Nat} {p : Nat} {rr : Nat} {ll : Nat} {pl : Int} {bd : Nat → Nat} (hS : c 1 1 = ((n : Nat) : Int)) (hn : n ≤ 300) (hB : ∀ i, nb i < 256) (hT : ∀ i, i < 300 → c 2 i = sb (nb i)) (hp : p ≤ n) (p1 : rr ≤ 5) (K1 : ltP nb n p rr = 0 → post (some (vi ((ltV nb n p : Nat) : Int))) (S nw nx g, 78 + gn, (pm c (tkK nb n (tkT nb n p)) (tkF nb n (tkT nb n p)) (tkT nb n (tkT nb n p)) rr ll 0 pl bd))) (K2 : ltP nb n p rr = 1 → post (some (vi 0)) (S nw nx g, 78 + gn, (pm c (tkK nb n p) (tkF nb n p) (tkT nb n p) rr ll 1 ((tkF nb n p : Nat) : Int) bd))) (K3 : ltP nb n p rr = 2 → post (some (vi 0)) (S nw nx g, 78 + gn, (pm c (tkK nb n p) (tkF nb n p) (tkT nb n p) rr ll 2 ((tkF nb n p : Nat) : Int) bd))) : SM G (j + 3) mX7_readLetter [vr (3), vr (1), vi ((-1))] (S nw nx g, 78 + gn, (pm c (tkK nb n p) (tkF nb n p) (tkT nb n p) rr ll 0 pl bd)) 0 0 post := by
  refine sm_of wX7_readLetter rfl (Nat.le_of_ble_eq_true rfl) ?_
  have h1 := tkT_le (nb := nb) hp
  have h2 := tkF_le (nb := nb) hp
  have h3 := tkK_le (nb := nb) (n := n) (p := p)
  refine g_X7_readLetter_m hS hn hB hT ?_
  have e0 : ltV nb n p = nb (tkF nb n p) - 97 := rfl
  by_cases hc : tkK nb n p = 1 ∧ tkT nb n p = tkF nb n p + 1
  · have h4 := tk_let hc.1 (tkF nb n p) (Nat.le_refl _) (by omega)
    rw [e0] at K1
    by_cases hd : rr ≤ ltV nb n p
    · have eL : ltP nb n p rr = 2 := by rw [ltP, if_neg (not_not_intro hc), if_pos hd]
      rw [e0] at hd
      refine ⟨?_, ⟨fun q => ?_, fun q => ⟨?_, ⟨?_, ⟨fun q => ⟨?_, ?_, ⟨?_, ⟨?_, ?_, ⟨fun q => ?_, fun q => ⟨?_, ⟨fun q => ?_, fun q => ⟨?_, ?_⟩⟩⟩⟩⟩⟩⟩, fun q => ?_⟩⟩⟩⟩⟩
      all_goals (try simp only [decide_eq_true_eq, decide_eq_false_iff_not] at *)
      all_goals first | omega | exact K3 eL | (exfalso; omega)
    · have eL : ltP nb n p rr = 0 := by rw [ltP, if_neg (not_not_intro hc), if_neg hd]
      rw [e0] at hd
      refine ⟨?_, ⟨fun q => ?_, fun q => ⟨?_, ⟨?_, ⟨fun q => ⟨?_, ?_, ⟨?_, ⟨?_, ?_, ⟨fun q => ?_, fun q => ⟨?_, ⟨fun q => ?_, fun q => ⟨?_, ?_⟩⟩⟩⟩⟩⟩⟩, fun q => ?_⟩⟩⟩⟩⟩
      all_goals (try simp only [decide_eq_true_eq, decide_eq_false_iff_not] at *)
      all_goals first | omega | exact K1 eL | (exfalso; omega)
  · have eL : ltP nb n p rr = 1 := by rw [ltP, if_pos hc]
    refine ⟨?_, ⟨fun q => ?_, fun q => ⟨?_, ⟨?_, ⟨fun q => ⟨?_, ?_, ⟨?_, ⟨?_, ?_, ⟨fun q => ?_, fun q => ⟨?_, ⟨fun q => ?_, fun q => ⟨?_, ?_⟩⟩⟩⟩⟩⟩⟩, fun q => ?_⟩⟩⟩⟩⟩
    all_goals first | omega | exact K2 eL | (exfalso; omega)

set_option maxHeartbeats 2000000 in
set_option maxRecDepth 20000 in
theorem g_X7_readLetter_n {G : GG} {j nw nx gn : Nat} {g : Nat → Sh} {c : Nat → Nat → Int} {post : Option AV → AM → Prop} {a : Nat} {nb : Nat → Nat} {n : Nat} {p : Nat} {rr : Nat} {ll : Nat} {pl : Int} {bd : Nat → Nat} (hS : c 1 1 = ((n : Nat) : Int)) (hn : n ≤ 300) (hB : ∀ i, nb i < 256) (hT : ∀ i, i < 300 → c 2 i = sb (nb i))  (hv : (tkK nb n p < 2147483648) ∧ (((tkK nb n p ≠ 1) → post (some (vi (0))) (S nw nx g, 78 + gn, (pm c (tkK nb n p) (tkF nb n p) (tkT nb n p) rr ll 1 ((tkF nb n p : Nat) : Int) bd))) ∧ ((tkK nb n p = 1) → (tkF nb n p ≤ tkT nb n p) ∧ (((tkT nb n p) - (tkF nb n p) < 2147483648) ∧ ((((tkT nb n p) - (tkF nb n p) = 1) → (tkF nb n p < 300) ∧ (nb (tkF nb n p) < 128) ∧ ((97 ≤ nb (tkF nb n p)) ∧ (((nb (tkF nb n p)) - 97 < 2147483648) ∧ (rr < 2147483648) ∧ (((rr ≤ (nb (tkF nb n p)) - 97) → post (some (vi (0))) (S nw nx g, 78 + gn, (pm c (tkK nb n p) (tkF nb n p) (tkT nb n p) rr ll 2 ((tkF nb n p : Nat) : Int) bd))) ∧ ((¬ (rr ≤ (nb (tkF nb n p)) - 97)) → ((nb (tkF nb n p)) - 97 < 2147483648) ∧ (a < 2147483648) ∧ ((((nb (tkF nb n p)) - 97 = a) → post (some (vi (0))) (S nw nx g, 78 + gn, (pm c (tkK nb n p) (tkF nb n p) (tkT nb n p) rr ll 2 ((tkF nb n p : Nat) : Int) bd))) ∧ ((¬ ((nb (tkF nb n p)) - 97 = a)) → (a * 5 + ((nb (tkF nb n p)) - 97) < 25) ∧ (bd (a * 5 + ((nb (tkF nb n p)) - 97)) < 100) ∧ ((((decide (bd (a * 5 + ((nb (tkF nb n p)) - 97)) ≠ 0)) = false) → ((tkT nb n p) ≤ n) ∧ (post (some (vi ((((nb (tkF nb n p)) - 97 : Nat) : Int)))) (S nw nx g, 78 + gn, (pm c (tkK nb n (tkT nb n p)) (tkF nb n (tkT nb n p)) (tkT nb n (tkT nb n p)) rr ll 0 pl bd)))) ∧ (((decide (bd (a * 5 + ((nb (tkF nb n p)) - 97)) ≠ 0)) = true) → post (some (vi (0))) (S nw nx g, 78 + gn, (pm c (tkK nb n p) (tkF nb n p) (tkT nb n p) rr ll 2 ((tkF nb n p : Nat) : Int) bd))))))))))) ∧ ((¬ ((tkT nb n p) - (tkF nb n p) = 1)) → post (some (vi (0))) (S nw nx g, 78 + gn, (pm c (tkK nb n p) (tkF nb n p) (tkT nb n p) rr ll 1 ((tkF nb n p : Nat) : Int) bd)))))))) :
    SW G (j + 2) mX7_readLetter 0 [some (vr (3)), some (vr (1)), some (vi (((a : Nat) : Int))), none] [] (S nw nx g, 78 + gn, (pm c (tkK nb n p) (tkF nb n p) (tkT nb n p) rr ll 0 pl bd)) B0 post := by
  refine sw_aload_n (dX7_readLetter.at 0 rfl) rfl rfl ?_
  refine sw_getIE (w := 0) (dX7_readLetter.at 1 rfl) fp_X7_27 (S_lt 3 (by decide)) (S_3 nw nx g) rfl rfl ?_
  refine sw_if_eq (tgt := 9) (dX7_readLetter.at 2 rfl) (by decide) (by decide) (fun q => ?_) (fun q => ?_)
  · clear q
    refine sw_aload_n (dX7_readLetter.at 5 rfl) rfl rfl ?_
    refine sw_getIE (w := ((tkK nb n p : Nat) : Int)) (dX7_readLetter.at 6 rfl) fp_X7_30 (S_lt 1 (by decide)) (S_1 nw nx g) rfl rfl ?_
    refine sw_iconst (dX7_readLetter.at 7 rfl) ?_
    refine sw_icmpN_ne (tkK nb n p) 1 (tgt := 30) (dX7_readLetter.at 8 rfl) (by decide) hv.1 (by decide) (fun q => ?_) (fun q => ?_)
    · replace hv := hv.2.1 q
      refine sw_aload_n (dX7_readLetter.at 16 rfl) rfl rfl ?_
      refine sw_aload_n (dX7_readLetter.at 17 rfl) rfl rfl ?_
      refine sw_iconst (dX7_readLetter.at 18 rfl) ?_
      refine sw_callV (B' := B0) (As := [vr (1), vi (1)]) (mc := 0) (ms := 0) (dX7_readLetter.at 19 rfl) lk_X7_47 (S_lt 3 (by decide)) (S_3 nw nx g) rfl rfl (Nat.le_of_ble_eq_true rfl) rfl (Nat.le_refl _) (Nat.le_refl _) ?_
      refine c_X7_fail (w := 1) (j := j + 1) hS hn hB hT ?_
      refine sw_iconst (dX7_readLetter.at 20 rfl) ?_
      exact sw_iret (dX7_readLetter.at 21 rfl) rfl (Nat.le_refl _) (Nat.le_refl _) hv
    · replace hv := hv.2.2 q
      refine sw_aload_n (dX7_readLetter.at 9 rfl) rfl rfl ?_
      refine sw_getIE (w := ((tkT nb n p : Nat) : Int)) (dX7_readLetter.at 10 rfl) fp_X7_88 (S_lt 1 (by decide)) (S_1 nw nx g) rfl rfl ?_
      refine sw_aload_n (dX7_readLetter.at 11 rfl) rfl rfl ?_
      refine sw_getIE (w := ((tkF nb n p : Nat) : Int)) (dX7_readLetter.at 12 rfl) fp_X7_91 (S_lt 1 (by decide)) (S_1 nw nx g) rfl rfl ?_
      refine sw_isub (dX7_readLetter.at 13 rfl) ?_
      refine sw_topI (y := (((tkT nb n p) - (tkF nb n p) : Nat) : Int)) (congrArg _ (Int.ofNat_sub hv.1).symm) ?_
      replace hv := hv.2
      refine sw_iconst (dX7_readLetter.at 14 rfl) ?_
      refine sw_icmpN_eq ((tkT nb n p) - (tkF nb n p)) 1 (tgt := 38) (dX7_readLetter.at 15 rfl) (by decide) hv.1 (by decide) (fun q => ?_) (fun q => ?_)
      · replace hv := hv.2.1 q
        refine sw_aload_n (dX7_readLetter.at 22 rfl) rfl rfl ?_
        refine sw_getR (dX7_readLetter.at 23 rfl) fp_X7_94 (S_lt 1 (by decide)) (S_1 nw nx g) rfl rfl ?_
        refine sw_aload_n (dX7_readLetter.at 24 rfl) rfl rfl ?_
        refine sw_getIE (w := ((tkF nb n p : Nat) : Int)) (dX7_readLetter.at 25 rfl) fp_X7_91 (S_lt 1 (by decide)) (S_1 nw nx g) rfl rfl ?_
        refine sw_baldN (tkF nb n p) (w := ((nb (tkF nb n p) : Nat) : Int)) (dX7_readLetter.at 26 rfl) (S_lt 2 (by decide)) (S_2 nw nx g) (by decide) hv.1 ((hT _ hv.1).trans (if_pos hv.2.1)) ?_
        replace hv := hv.2.2
        refine sw_bipush (dX7_readLetter.at 27 rfl) (by decide) ?_
        refine sw_isub (dX7_readLetter.at 28 rfl) ?_
        refine sw_topI (y := (((nb (tkF nb n p)) - 97 : Nat) : Int)) (congrArg _ (Int.ofNat_sub hv.1).symm) ?_
        replace hv := hv.2
        refine sw_istore_n (lo' := [some (vr (3)), some (vr (1)), some (vi (((a : Nat) : Int))), some (vi ((((nb (tkF nb n p)) - 97 : Nat) : Int)))]) (dX7_readLetter.at 29 rfl) rfl (by decide) rfl ?_
        refine sw_iload_n (dX7_readLetter.at 30 rfl) rfl rfl ?_
        refine sw_aload_n (dX7_readLetter.at 31 rfl) rfl rfl ?_
        refine sw_getIE (w := ((rr : Nat) : Int)) (dX7_readLetter.at 32 rfl) fp_X7_67 (S_lt 3 (by decide)) (S_3 nw nx g) rfl rfl ?_
        refine sw_icmpN_ge ((nb (tkF nb n p)) - 97) rr (tgt := 73) (dX7_readLetter.at 33 rfl) (by decide) hv.1 hv.2.1 (fun q => ?_) (fun q => ?_)
        · replace hv := hv.2.2.1 q
          refine sw_aload_n (dX7_readLetter.at 42 rfl) rfl rfl ?_
          refine sw_aload_n (dX7_readLetter.at 43 rfl) rfl rfl ?_
          refine sw_iconst (dX7_readLetter.at 44 rfl) ?_
          refine sw_callV (B' := B0) (As := [vr (1), vi (2)]) (mc := 0) (ms := 0) (dX7_readLetter.at 45 rfl) lk_X7_47 (S_lt 3 (by decide)) (S_3 nw nx g) rfl rfl (Nat.le_of_ble_eq_true rfl) rfl (Nat.le_refl _) (Nat.le_refl _) ?_
          refine c_X7_fail (w := 2) (j := j + 1) hS hn hB hT ?_
          refine sw_iconst (dX7_readLetter.at 46 rfl) ?_
          exact sw_iret (dX7_readLetter.at 47 rfl) rfl (Nat.le_refl _) (Nat.le_refl _) hv
        · replace hv := hv.2.2.2 q
          refine sw_iload_n (dX7_readLetter.at 34 rfl) rfl rfl ?_
          refine sw_iload_n (dX7_readLetter.at 35 rfl) rfl rfl ?_
          refine sw_icmpN_eq ((nb (tkF nb n p)) - 97) a (tgt := 73) (dX7_readLetter.at 36 rfl) (by decide) hv.1 hv.2.1 (fun q => ?_) (fun q => ?_)
          · replace hv := hv.2.2.1 q
            refine sw_aload_n (dX7_readLetter.at 42 rfl) rfl rfl ?_
            refine sw_aload_n (dX7_readLetter.at 43 rfl) rfl rfl ?_
            refine sw_iconst (dX7_readLetter.at 44 rfl) ?_
            refine sw_callV (B' := B0) (As := [vr (1), vi (2)]) (mc := 0) (ms := 0) (dX7_readLetter.at 45 rfl) lk_X7_47 (S_lt 3 (by decide)) (S_3 nw nx g) rfl rfl (Nat.le_of_ble_eq_true rfl) rfl (Nat.le_refl _) (Nat.le_refl _) ?_
            refine c_X7_fail (w := 2) (j := j + 1) hS hn hB hT ?_
            refine sw_iconst (dX7_readLetter.at 46 rfl) ?_
            exact sw_iret (dX7_readLetter.at 47 rfl) rfl (Nat.le_refl _) (Nat.le_refl _) hv
          · replace hv := hv.2.2.2 q
            refine sw_aload_n (dX7_readLetter.at 37 rfl) rfl rfl ?_
            refine sw_iload_n (dX7_readLetter.at 38 rfl) rfl rfl ?_
            refine sw_iload_n (dX7_readLetter.at 39 rfl) rfl rfl ?_
            refine sw_callV (B' := B0) (As := [vi (((a : Nat) : Int)), vi ((((nb (tkF nb n p)) - 97 : Nat) : Int))]) (mc := 0) (ms := 0) (dX7_readLetter.at 40 rfl) lk_X7_98 (S_lt 3 (by decide)) (S_3 nw nx g) rfl rfl (Nat.le_of_ble_eq_true rfl) rfl (Nat.le_refl _) (Nat.le_refl _) ?_
            refine c_X7_isTold_n (v := a) (w := ((nb (tkF nb n p)) - 97)) (j := j + 1) hS hn hB hT hv.1 hv.2.1 ?_
            replace hv := hv.2.2
            refine sw_if_eq (tgt := 81) (dX7_readLetter.at 41 rfl) (by decide) (bz_rng _) (fun q => ?_) (fun q => ?_)
            · replace hv := hv.1 (bz_0 q)
              refine sw_aload_n (dX7_readLetter.at 48 rfl) rfl rfl ?_
              refine sw_callV (B' := B0) (As := []) (mc := 0) (ms := 0) (dX7_readLetter.at 49 rfl) lk_X7_64 (S_lt 1 (by decide)) (S_1 nw nx g) rfl rfl (Nat.le_of_ble_eq_true rfl) rfl (Nat.le_refl _) (Nat.le_refl _) ?_
              refine c_X6_readNext (j := j + 0) hS hn hB hT hv.1 ?_
              replace hv := hv.2
              refine sw_iload_n (dX7_readLetter.at 50 rfl) rfl rfl ?_
              exact sw_iret (dX7_readLetter.at 51 rfl) rfl (Nat.le_refl _) (Nat.le_refl _) hv
            · replace hv := hv.2 (bz_n0 q)
              refine sw_aload_n (dX7_readLetter.at 42 rfl) rfl rfl ?_
              refine sw_aload_n (dX7_readLetter.at 43 rfl) rfl rfl ?_
              refine sw_iconst (dX7_readLetter.at 44 rfl) ?_
              refine sw_callV (B' := B0) (As := [vr (1), vi (2)]) (mc := 0) (ms := 0) (dX7_readLetter.at 45 rfl) lk_X7_47 (S_lt 3 (by decide)) (S_3 nw nx g) rfl rfl (Nat.le_of_ble_eq_true rfl) rfl (Nat.le_refl _) (Nat.le_refl _) ?_
              refine c_X7_fail (w := 2) (j := j + 1) hS hn hB hT ?_
              refine sw_iconst (dX7_readLetter.at 46 rfl) ?_
              exact sw_iret (dX7_readLetter.at 47 rfl) rfl (Nat.le_refl _) (Nat.le_refl _) hv
      · replace hv := hv.2.2 q
        refine sw_aload_n (dX7_readLetter.at 16 rfl) rfl rfl ?_
        refine sw_aload_n (dX7_readLetter.at 17 rfl) rfl rfl ?_
        refine sw_iconst (dX7_readLetter.at 18 rfl) ?_
        refine sw_callV (B' := B0) (As := [vr (1), vi (1)]) (mc := 0) (ms := 0) (dX7_readLetter.at 19 rfl) lk_X7_47 (S_lt 3 (by decide)) (S_3 nw nx g) rfl rfl (Nat.le_of_ble_eq_true rfl) rfl (Nat.le_refl _) (Nat.le_refl _) ?_
        refine c_X7_fail (w := 1) (j := j + 1) hS hn hB hT ?_
        refine sw_iconst (dX7_readLetter.at 20 rfl) ?_
        exact sw_iret (dX7_readLetter.at 21 rfl) rfl (Nat.le_refl _) (Nat.le_refl _) hv
  · exact absurd q (by decide)

set_option maxHeartbeats 4000000 in
theorem c_X7_readLetter_n {G : GG} {j nw nx gn : Nat} {g : Nat → Sh} {c : Nat → Nat → Int} {post : Option AV → AM → Prop} {nb : Nat → Nat} {n : Nat} {p : Nat} {rr : Nat} {ll : Nat} {pl : Int} {bd : Nat → Nat} {a : Nat} (hS : c 1 1 = ((n : Nat) : Int)) (hn : n ≤ 300) (hB : ∀ i, nb i < 256) (hT : ∀ i, i < 300 → c 2 i = sb (nb i)) (hp : p ≤ n) (p1 : rr ≤ 5) (p2 : ∀ i, i < 25 → bd i < 100) (p3 : a < 5) (K1 : ltQ nb n p rr a bd = 0 → post (some (vi ((ltV nb n p : Nat) : Int))) (S nw nx g, 78 + gn, (pm c (tkK nb n (tkT nb n p)) (tkF nb n (tkT nb n p)) (tkT nb n (tkT nb n p)) rr ll 0 pl bd))) (K2 : ltQ nb n p rr a bd = 1 → post (some (vi 0)) (S nw nx g, 78 + gn, (pm c (tkK nb n p) (tkF nb n p) (tkT nb n p) rr ll 1 ((tkF nb n p : Nat) : Int) bd))) (K3 : ltQ nb n p rr a bd = 2 → post (some (vi 0)) (S nw nx g, 78 + gn, (pm c (tkK nb n p) (tkF nb n p) (tkT nb n p) rr ll 2 ((tkF nb n p : Nat) : Int) bd))) : SM G (j + 3) mX7_readLetter [vr (3), vr (1), vi (((a : Nat) : Int))] (S nw nx g, 78 + gn, (pm c (tkK nb n p) (tkF nb n p) (tkT nb n p) rr ll 0 pl bd)) 0 0 post := by
  refine sm_of wX7_readLetter rfl (Nat.le_of_ble_eq_true rfl) ?_
  have h1 := tkT_le (nb := nb) hp
  have h2 := tkF_le (nb := nb) hp
  have h3 := tkK_le (nb := nb) (n := n) (p := p)
  refine g_X7_readLetter_n hS hn hB hT ?_
  have e0 : ltV nb n p = nb (tkF nb n p) - 97 := rfl
  by_cases hc : tkK nb n p = 1 ∧ tkT nb n p = tkF nb n p + 1
  · have h4 := tk_let hc.1 (tkF nb n p) (Nat.le_refl _) (by omega)
    rw [e0] at K1
    by_cases hd : rr ≤ ltV nb n p ∨ ltV nb n p = a ∨ bd (a * 5 + ltV nb n p) ≠ 0
    · have eL : ltQ nb n p rr a bd = 2 := by rw [ltQ, if_neg (not_not_intro hc), if_pos hd]
      rw [e0] at hd
      refine ⟨?_, ⟨fun q => ?_, fun q => ⟨?_, ⟨?_, ⟨fun q => ⟨?_, ?_, ⟨?_, ⟨?_, ?_, ⟨fun q => ?_, fun q => ⟨?_, ?_, ⟨fun q => ?_, fun q => ⟨?_, ?_, ⟨fun q => ⟨?_, ?_⟩, fun q => ?_⟩⟩⟩⟩⟩⟩⟩⟩, fun q => ?_⟩⟩⟩⟩⟩
      all_goals (try simp only [decide_eq_true_eq, decide_eq_false_iff_not] at *)
      all_goals first | omega | exact K3 eL | (exfalso; omega) | exact p2 _ (by omega)
    · have eL : ltQ nb n p rr a bd = 0 := by rw [ltQ, if_neg (not_not_intro hc), if_neg hd]
      rw [e0] at hd
      refine ⟨?_, ⟨fun q => ?_, fun q => ⟨?_, ⟨?_, ⟨fun q => ⟨?_, ?_, ⟨?_, ⟨?_, ?_, ⟨fun q => ?_, fun q => ⟨?_, ?_, ⟨fun q => ?_, fun q => ⟨?_, ?_, ⟨fun q => ⟨?_, ?_⟩, fun q => ?_⟩⟩⟩⟩⟩⟩⟩⟩, fun q => ?_⟩⟩⟩⟩⟩
      all_goals (try simp only [decide_eq_true_eq, decide_eq_false_iff_not] at *)
      all_goals first | omega | exact K1 eL | (exfalso; omega) | exact p2 _ (by omega)
  · have eL : ltQ nb n p rr a bd = 1 := by rw [ltQ, if_pos hc]
    refine ⟨?_, ⟨fun q => ?_, fun q => ⟨?_, ⟨?_, ⟨fun q => ⟨?_, ?_, ⟨?_, ⟨?_, ?_, ⟨fun q => ?_, fun q => ⟨?_, ?_, ⟨fun q => ?_, fun q => ⟨?_, ?_, ⟨fun q => ⟨?_, ?_⟩, fun q => ?_⟩⟩⟩⟩⟩⟩⟩⟩, fun q => ?_⟩⟩⟩⟩⟩
    all_goals first | omega | exact K2 eL | (exfalso; omega)

