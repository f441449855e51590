theorem S_set8 (nw nx : Nat) (g : Nat → Sh) : upS (S nw nx g) 0 (.inr (8, [some 1, some 3, some 5, some 7, some 9, some 11, some 15, some 20, some nx, some nx, none])) = S nx nx g := by
  funext i
  unfold upS S
  by_cases h : i = 0
  · subst h; rfl
  · rw [if_neg h]
    by_cases h2 : i < 78
    · rw [if_pos h2, if_pos h2]
      obtain ⟨k, rfl⟩ : ∃ k, i = k + 1 := ⟨i - 1, by omega⟩
      rfl
    · rw [if_neg h2, if_neg h2]
theorem S_set9 (nw nx : Nat) (g : Nat → Sh) : upS (S nx nx g) 0 (.inr (8, [some 1, some 3, some 5, some 7, some 9, some 11, some 15, some 20, some nx, some nw, none])) = S nx nw g := by
  funext i
  unfold upS S
  by_cases h : i = 0
  · subst h; rfl
  · rw [if_neg h]
    by_cases h2 : i < 78
    · rw [if_pos h2, if_pos h2]
      obtain ⟨k, rfl⟩ : ∃ k, i = k + 1 := ⟨i - 1, by omega⟩
      rfl
    · rw [if_neg h2, if_neg h2]

theorem g_X8_group_49 {G : GG} {j nw nx gn : Nat} {g : Nat → Sh} {c : Nat → Nat → Int} {post : Option AV → AM → Prop} (K : SW G (j + 7) mX8_group 67 [some (vr 0), some (vr nw)] [] (S nx nw g, 78 + gn, c) B0 post) : SW G (j + 7) mX8_group 49 [some (vr 0), none] [] (S nw nx g, 78 + gn, c) B0 post := by
  refine sw_aload_n (dX8_group.at 23 rfl) rfl rfl ?_
  refine sw_getR (dX8_group.at 24 rfl) fp_X8_65 (S_lt 0 (by decide)) (S_0 nw nx g) rfl rfl ?_
  refine sw_astore_n (lo' := [some (vr 0), some (vr nw)]) (dX8_group.at 25 rfl) rfl (by decide) rfl ?_
  refine sw_aload_n (dX8_group.at 26 rfl) rfl rfl ?_
  refine sw_aload_n (dX8_group.at 27 rfl) rfl rfl ?_
  refine sw_getR (dX8_group.at 28 rfl) fp_X8_69 (S_lt 0 (by decide)) (S_0 nw nx g) rfl rfl ?_
  refine sw_putR (dX8_group.at 29 rfl) fp_X8_65 (fun h => by cases h) (Or.inl ⟨_, rfl⟩) (S_lt 0 (by decide)) (S_0 nw nx g) rfl (Nat.le_of_ble_eq_true rfl) ?_
  refine SW.cg (M' := (S nx nx g, 78 + gn, c)) (congrArg (fun q => (q, 78 + gn, c)) (S_set8 nw nx g)) ?_
  refine sw_aload_n (dX8_group.at 30 rfl) rfl rfl ?_
  refine sw_aload_n (dX8_group.at 31 rfl) rfl rfl ?_
  refine sw_putR (dX8_group.at 32 rfl) fp_X8_69 (fun h => by cases h) (Or.inl ⟨_, rfl⟩) (S_lt 0 (by decide)) (S_0 nx nx g) rfl (Nat.le_of_ble_eq_true rfl) ?_
  exact SW.cg (M' := (S nx nw g, 78 + gn, c)) (congrArg (fun q => (q, 78 + gn, c)) (S_set9 nw nx g)) K

set_option maxHeartbeats 2000000 in
set_option maxRecDepth 20000 in
theorem g_X8_group_0 {G : GG} {j nw nx gn : Nat} {g : Nat → Sh} {c : Nat → Nat → Int} {post : Option AV → AM → Prop} {nb : Nat → Nat} {n : Nat} {tk : Nat} {tf : Nat} {tt : Nat} {rr : Nat} {ll : Nat} {ff : Nat} {pl : Int} {bd : Nat → Nat} (hS : c 1 1 = ((n : Nat) : Int)) (hn : n ≤ 300) (hB : ∀ i, nb i < 256) (hT : ∀ i, i < 300 → c 2 i = sb (nb i))  (hv : (∀ (tk_1 : Nat), ∀ (tf_1 : Nat), ∀ (tt_1 : Nat), ∀ (rr_1 : Nat), ∀ (ll_1 : Nat), ∀ (ff_1 : Nat), ∀ (pl_1 : Int), ∀ (bd_1 : Nat → Nat), (PRes (glP nb n 300 0 0 0 (fun _ => 0)) rr_1 ll_1 ff_1 pl_1 bd_1) → (ff_1 < 2147483648) ∧ (((ff_1 = 0) → SW G (j + 7) mX8_group 32 [some (vr (0)), none] [] (S nw nx g, 78 + gn, (up2 (pm c tk_1 tf_1 tt_1 rr_1 ll_1 ff_1 pl_1 bd_1) 1 1 0)) B0 post) ∧ ((¬ (ff_1 = 0)) → post (some (vi ((-4)))) (S nw nx g, 78 + gn, (up2 (pm c tk_1 tf_1 tt_1 rr_1 ll_1 ff_1 pl_1 bd_1) 1 1 0)))))) :
    SW G (j + 7) mX8_group 0 [some (vr (0)), none] [] (S nw nx g, 78 + gn, (pm c tk tf tt rr ll ff pl bd)) B0 post := by
  refine sw_aload_n (dX8_group.at 0 rfl) rfl rfl ?_
  refine sw_getR (dX8_group.at 1 rfl) fp_X8_19 (S_lt 0 (by decide)) (S_0 nw nx g) rfl rfl ?_
  refine sw_aload_n (dX8_group.at 2 rfl) rfl rfl ?_
  refine sw_getR (dX8_group.at 3 rfl) fp_X8_10 (S_lt 0 (by decide)) (S_0 nw nx g) rfl rfl ?_
  refine sw_callV (B' := B0) (As := [vr (1)]) (mc := 0) (ms := 0) (dX8_group.at 4 rfl) lk_X8_83 (S_lt 3 (by decide)) (S_3 nw nx g) rfl rfl (Nat.le_of_ble_eq_true rfl) rfl (Nat.le_refl _) (Nat.le_refl _) ?_
  refine c_X7_readGroup (j := j + 0) hS hn hB hT (fun tk_1 tf_1 tt_1 rr_1 ll_1 ff_1 pl_1 bd_1 q2 => ?_) 
  · replace hv := hv tk_1 tf_1 tt_1 rr_1 ll_1 ff_1 pl_1 bd_1 q2
    refine sw_aload_n (dX8_group.at 5 rfl) rfl rfl ?_
    refine sw_getR (dX8_group.at 6 rfl) fp_X8_10 (S_lt 0 (by decide)) (S_0 nw nx g) rfl rfl ?_
    refine sw_iconst (dX8_group.at 7 rfl) ?_
    refine sw_putI (dX8_group.at 8 rfl) fp_X8_76 (S_lt 1 (by decide)) (S_1 nw nx g) rfl ?_
    refine sw_aload_n (dX8_group.at 9 rfl) rfl rfl ?_
    refine sw_getR (dX8_group.at 10 rfl) fp_X8_19 (S_lt 0 (by decide)) (S_0 nw nx g) rfl rfl ?_
    refine sw_getIE (w := ((ff_1 : Nat) : Int)) (dX8_group.at 11 rfl) fp_X8_87 (S_lt 3 (by decide)) (S_3 nw nx g) rfl ((up2_ne (c := (pm c tk_1 tf_1 tt_1 rr_1 ll_1 ff_1 pl_1 bd_1)) (i := 1) (k := 1) (z := 0) (i' := 3) (k' := 3) (Or.inl (by decide))).trans rfl) ?_
    refine sw_ifN_eq ff_1 (tgt := 32) (dX8_group.at 12 rfl) (by decide) hv.1 (fun q => ?_) (fun q => ?_)
    · replace hv := hv.2.1 q
      exact hv
    · replace hv := hv.2.2 q
      refine sw_bipush (dX8_group.at 13 rfl) (by decide) ?_
      exact sw_iret (dX8_group.at 14 rfl) rfl (Nat.le_refl _) (Nat.le_refl _) hv

set_option maxHeartbeats 2000000 in
set_option maxRecDepth 20000 in
theorem g_X8_group_32none {G : GG} {j nw nx gn : Nat} {g : Nat → Sh} {c : Nat → Nat → Int} {post : Option AV → AM → Prop} {be : Nat → Nat} {le : Nat → Nat} {hd : Nat → Nat} {ls : Nat → Nat} {st : Nat → Int} {pr : Nat → Nat} {iv : Nat → Nat} {fa : Nat → Nat} {eb : Nat → Nat} {ml : Nat → Nat} {mf : Nat → Int} {rw : Nat → Nat} {dn : Nat → Nat} {rk : Nat} {mn : Nat} {mm : Nat} {r : Nat} {bd : Nat → Nat} (hnx : nx = 21 ∨ nx = 35) (hTr : c 3 1 = ((r : Nat) : Int)) (hTb : ∀ i, i < 25 → c 4 i = ((bd i : Nat) : Int)) (hbd : ∀ i, i < 25 → bd i < 100) (hr0 : r = 0)  (hv : (∀ (be_1 : Nat → Nat), SW G (j + 7) mX8_group 49 [some (vr (0)), none] [] (S nw nx g, 78 + gn, (em c nx be_1 le hd ls st pr iv fa eb ml mf rw dn 0 0 0)) B0 post)) :
    SW G (j + 7) mX8_group 32 [some (vr (0)), none] [] (S nw nx g, 78 + gn, (em c nx be le hd ls st pr iv fa eb ml mf rw dn rk mn mm)) B0 post := by
  refine sw_aload_n (dX8_group.at 15 rfl) rfl rfl ?_
  refine sw_getR (dX8_group.at 16 rfl) fp_X8_69 (S_lt 0 (by decide)) (S_0 nw nx g) rfl rfl ?_
  refine sw_aload_n (dX8_group.at 17 rfl) rfl rfl ?_
  refine sw_getR (dX8_group.at 18 rfl) fp_X8_19 (S_lt 0 (by decide)) (S_0 nw nx g) rfl rfl ?_
  refine sw_callV (B' := B0) (As := [vr (3)]) (mc := 0) (ms := 0) (dX8_group.at 19 rfl) lk_X8_90 (S_e_lt hnx) (S_e hnx) rfl rfl (Nat.le_of_ble_eq_true rfl) rfl (Nat.le_refl _) (Nat.le_refl _) ?_
  refine c_X1_make_none (j := j + 2) hnx hTr hTb hbd hr0 (fun be_1 => ?_) 
  · replace hv := hv be_1
    refine sw_if_ne (tgt := 49) (dX8_group.at 20 rfl) (by decide) (by decide) (fun q => ?_) (fun q => ?_)
    · clear q
      exact hv
    · exact absurd q (by decide)

set_option maxHeartbeats 2000000 in
set_option maxRecDepth 20000 in
theorem g_X8_group_32bad {G : GG} {j nw nx gn : Nat} {g : Nat → Sh} {c : Nat → Nat → Int} {post : Option AV → AM → Prop} {be : Nat → Nat} {le : Nat → Nat} {hd : Nat → Nat} {ls : Nat → Nat} {st : Nat → Int} {pr : Nat → Nat} {iv : Nat → Nat} {fa : Nat → Nat} {eb : Nat → Nat} {ml : Nat → Nat} {mf : Nat → Int} {rw : Nat → Nat} {dn : Nat → Nat} {rk : Nat} {mn : Nat} {mm : Nat} {r : Nat} {bd : Nat → Nat} {bo : Nat → Nat} (hnx : nx = 21 ∨ nx = 35) (hTr : c 3 1 = ((r : Nat) : Int)) (hTb : ∀ i, i < 25 → c 4 i = ((bd i : Nat) : Int)) (hbd : ∀ i, i < 25 → bd i < 100) (hr0 : 0 < r) (hrk : r ≤ 5) (hB : BAD r bo) (hbo : ∀ s t, s < r → t < r → s ≠ t → (2 ≤ (if bd (s * 5 + t) = 0 then 2 else bd (s * 5 + t)) ∧ (if bd (s * 5 + t) = 0 then 2 else bd (s * 5 + t)) ≤ 12) ∧ bo (5 * s + t) = (if bd (s * 5 + t) = 0 then 2 else bd (s * 5 + t)) ∧ bo (5 * t + s) = (if bd (s * 5 + t) = 0 then 2 else bd (s * 5 + t)))  (hv : (∀ (be_1 : Nat → Nat), ∀ (le_1 : Nat → Nat), ∀ (hd_1 : Nat → Nat), ∀ (ls_1 : Nat → Nat), ∀ (st_1 : Nat → Int), ∀ (mn_1 : Nat), post (some (vi ((-5)))) (S nw nx g, 78 + gn, (em c nx be_1 le_1 hd_1 ls_1 st_1 pr iv fa eb ml mf rw dn r mn_1 0)))) :
    SW G (j + 7) mX8_group 32 [some (vr (0)), none] [] (S nw nx g, 78 + gn, (em c nx be le hd ls st pr iv fa eb ml mf rw dn rk mn mm)) B0 post := by
  refine sw_aload_n (dX8_group.at 15 rfl) rfl rfl ?_
  refine sw_getR (dX8_group.at 16 rfl) fp_X8_69 (S_lt 0 (by decide)) (S_0 nw nx g) rfl rfl ?_
  refine sw_aload_n (dX8_group.at 17 rfl) rfl rfl ?_
  refine sw_getR (dX8_group.at 18 rfl) fp_X8_19 (S_lt 0 (by decide)) (S_0 nw nx g) rfl rfl ?_
  refine sw_callV (B' := B0) (As := [vr (3)]) (mc := 0) (ms := 0) (dX8_group.at 19 rfl) lk_X8_90 (S_e_lt hnx) (S_e hnx) rfl rfl (Nat.le_of_ble_eq_true rfl) rfl (Nat.le_refl _) (Nat.le_refl _) ?_
  refine c_X1_make_bad (j := j + 2) hnx hTr hTb hbd hr0 hrk hB hbo (fun be_1 le_1 hd_1 ls_1 st_1 mn_1 => ?_) 
  · replace hv := hv be_1 le_1 hd_1 ls_1 st_1 mn_1
    refine sw_if_ne (tgt := 49) (dX8_group.at 20 rfl) (by decide) (by decide) (fun q => ?_) (fun q => ?_)
    · exact absurd q (by decide)
    · clear q
      refine sw_bipush (dX8_group.at 21 rfl) (by decide) ?_
      exact sw_iret (dX8_group.at 22 rfl) rfl (Nat.le_refl _) (Nat.le_refl _) hv

set_option maxHeartbeats 2000000 in
set_option maxRecDepth 20000 in
theorem g_X8_group_32good {G : GG} {j nw nx gn : Nat} {g : Nat → Sh} {c : Nat → Nat → Int} {post : Option AV → AM → Prop} {be : Nat → Nat} {le : Nat → Nat} {hd : Nat → Nat} {ls : Nat → Nat} {st : Nat → Int} {pr : Nat → Nat} {iv : Nat → Nat} {fa : Nat → Nat} {eb : Nat → Nat} {ml : Nat → Nat} {mf : Nat → Int} {rw : Nat → Nat} {dn : Nat → Nat} {rk : Nat} {mn : Nat} {mm : Nat} {r : Nat} {bd : Nat → Nat} {P : GD} (hnx : nx = 21 ∨ nx = 35) (hTr : c 3 1 = ((r : Nat) : Int)) (hTb : ∀ i, i < 25 → c 4 i = ((bd i : Nat) : Int)) (hbd : ∀ i, i < 25 → bd i < 100) (hr0 : r = gR P) (hV : GV P) (hC : GC P) (hO : FO P) (hK : FK1 P) (hP : FQ P) (hB : FB P) (h0 : 0 < gN P) (hbg : ∀ s t, s < gR P → t < gR P → t ≠ s → (if bd (s * 5 + t) = 0 then 2 else bd (s * 5 + t)) = gB P s t ∧ 2 ≤ gB P s t)  (hv : (∀ (be_1 : Nat → Nat), ∀ (le_1 : Nat → Nat), ∀ (hd_1 : Nat → Nat), ∀ (ls_1 : Nat → Nat), ∀ (st_1 : Nat → Int), ∀ (pr_1 : Nat → Nat), ∀ (iv_1 : Nat → Nat), ∀ (fa_1 : Nat → Nat), ∀ (eb_1 : Nat → Nat), ∀ (ml_1 : Nat → Nat), ∀ (mf_1 : Nat → Int), ∀ (rw_1 : Nat → Nat), ∀ (dn_1 : Nat → Nat), (EL (em c nx be_1 le_1 hd_1 ls_1 st_1 pr_1 iv_1 fa_1 eb_1 ml_1 mf_1 rw_1 dn_1 (gR P) (gN P) (gM P)) nx P) → SW G (j + 7) mX8_group 49 [some (vr (0)), none] [] (S nw nx g, 78 + gn, (em c nx be_1 le_1 hd_1 ls_1 st_1 pr_1 iv_1 fa_1 eb_1 ml_1 mf_1 rw_1 dn_1 (gR P) (gN P) (gM P))) B0 post)) :
    SW G (j + 7) mX8_group 32 [some (vr (0)), none] [] (S nw nx g, 78 + gn, (em c nx be le hd ls st pr iv fa eb ml mf rw dn rk mn mm)) B0 post := by
  refine sw_aload_n (dX8_group.at 15 rfl) rfl rfl ?_
  refine sw_getR (dX8_group.at 16 rfl) fp_X8_69 (S_lt 0 (by decide)) (S_0 nw nx g) rfl rfl ?_
  refine sw_aload_n (dX8_group.at 17 rfl) rfl rfl ?_
  refine sw_getR (dX8_group.at 18 rfl) fp_X8_19 (S_lt 0 (by decide)) (S_0 nw nx g) rfl rfl ?_
  refine sw_callV (B' := B0) (As := [vr (3)]) (mc := 0) (ms := 0) (dX8_group.at 19 rfl) lk_X8_90 (S_e_lt hnx) (S_e hnx) rfl rfl (Nat.le_of_ble_eq_true rfl) rfl (Nat.le_refl _) (Nat.le_refl _) ?_
  refine c_X1_make_good (j := j + 2) hnx hTr hTb hbd hr0 hV hC hO hK hP hB h0 hbg (fun be_1 le_1 hd_1 ls_1 st_1 pr_1 iv_1 fa_1 eb_1 ml_1 mf_1 rw_1 dn_1 q2 => ?_) 
  · replace hv := hv be_1 le_1 hd_1 ls_1 st_1 pr_1 iv_1 fa_1 eb_1 ml_1 mf_1 rw_1 dn_1 q2
    refine sw_if_ne (tgt := 49) (dX8_group.at 20 rfl) (by decide) (by decide) (fun q => ?_) (fun q => ?_)
    · clear q
      exact hv
    · exact absurd q (by decide)

set_option maxHeartbeats 2000000 in
set_option maxRecDepth 20000 in
theorem g_X8_group_67 {G : GG} {j nw nx gn : Nat} {g : Nat → Sh} {c : Nat → Nat → Int} {post : Option AV → AM → Prop} {P : GD} {ll : Nat} (hnw : nw = 21 ∨ nw = 35) (hE : EL c nw P) (hLn : c 3 2 = ((ll : Nat) : Int))  (hv : post (some (vi (((gN P : Nat) : Int)))) (S nw nx g, 78 + gn, (up2 (up2 (up2 (up2 (up2 (up2 (up2 (up2 c 0 10 ((ll : Nat) : Int)) 5 1 0) 7 1 0) 15 4 0) 15 5 0) 19 0 (-1)) 19 1 (-1)) 19 2 (-1)))) :
    SW G (j + 7) mX8_group 67 [some (vr (0)), some (vr (nx))] [] (S nw nx g, 78 + gn, c) B0 post := by
  refine sw_aload_n (dX8_group.at 33 rfl) rfl rfl ?_
  refine sw_aload_n (dX8_group.at 34 rfl) rfl rfl ?_
  refine sw_getR (dX8_group.at 35 rfl) fp_X8_19 (S_lt 0 (by decide)) (S_0 nw nx g) rfl rfl ?_
  refine sw_getIE (w := ((ll : Nat) : Int)) (dX8_group.at 36 rfl) fp_X8_94 (S_lt 3 (by decide)) (S_3 nw nx g) rfl hLn ?_
  refine sw_putI (dX8_group.at 37 rfl) fp_X8_72 (S_lt 0 (by decide)) (S_0 nw nx g) rfl ?_
  refine sw_aload_n (dX8_group.at 38 rfl) rfl rfl ?_
  refine sw_getR (dX8_group.at 39 rfl) fp_X8_26 (S_lt 0 (by decide)) (S_0 nw nx g) rfl rfl ?_
  refine sw_iconst (dX8_group.at 40 rfl) ?_
  refine sw_putZ (dX8_group.at 41 rfl) fp_X8_95 (S_lt 5 (by decide)) (S_5 nw nx g) rfl (by decide) ?_
  refine sw_aload_n (dX8_group.at 42 rfl) rfl rfl ?_
  refine sw_getR (dX8_group.at 43 rfl) fp_X8_33 (S_lt 0 (by decide)) (S_0 nw nx g) rfl rfl ?_
  refine sw_iconst (dX8_group.at 44 rfl) ?_
  refine sw_putZ (dX8_group.at 45 rfl) fp_X8_99 (S_lt 7 (by decide)) (S_7 nw nx g) rfl (by decide) ?_
  refine sw_aload_n (dX8_group.at 46 rfl) rfl rfl ?_
  refine sw_getR (dX8_group.at 47 rfl) fp_X8_54 (S_lt 0 (by decide)) (S_0 nw nx g) rfl rfl ?_
  refine sw_callV (B' := B0) (As := []) (mc := 0) (ms := 0) (dX8_group.at 48 rfl) lk_X8_100 (S_lt 15 (by decide)) (S_15 nw nx g) rfl rfl (Nat.le_of_ble_eq_true rfl) rfl (Nat.le_refl _) (Nat.le_refl _) ?_
  refine c_X3_reset  (j := j + 6)  ?_
  refine sw_aload_n (dX8_group.at 49 rfl) rfl rfl ?_
  refine sw_getR (dX8_group.at 50 rfl) fp_X8_65 (S_lt 0 (by decide)) (S_0 nw nx g) rfl rfl ?_
  refine sw_getIE (w := ((gN P : Nat) : Int)) (dX8_group.at 51 rfl) fp_X8_103 (S_e_lt hnw) (S_e hnw) rfl ((up2_ne (c := (up2 (up2 (up2 (up2 (up2 (up2 (up2 c 0 10 ((ll : Nat) : Int)) 5 1 0) 7 1 0) 15 4 0) 15 5 0) 19 0 (-1)) 19 1 (-1))) (i := 19) (k := 2) (z := (-1)) (i' := nw) (k' := 14) (Or.inr (by decide))).trans ((up2_ne (c := (up2 (up2 (up2 (up2 (up2 (up2 c 0 10 ((ll : Nat) : Int)) 5 1 0) 7 1 0) 15 4 0) 15 5 0) 19 0 (-1))) (i := 19) (k := 1) (z := (-1)) (i' := nw) (k' := 14) (Or.inr (by decide))).trans ((up2_ne (c := (up2 (up2 (up2 (up2 (up2 c 0 10 ((ll : Nat) : Int)) 5 1 0) 7 1 0) 15 4 0) 15 5 0)) (i := 19) (k := 0) (z := (-1)) (i' := nw) (k' := 14) (Or.inr (by decide))).trans ((up2_ne (c := (up2 (up2 (up2 (up2 c 0 10 ((ll : Nat) : Int)) 5 1 0) 7 1 0) 15 4 0)) (i := 15) (k := 5) (z := 0) (i' := nw) (k' := 14) (Or.inr (by decide))).trans ((up2_ne (c := (up2 (up2 (up2 c 0 10 ((ll : Nat) : Int)) 5 1 0) 7 1 0)) (i := 15) (k := 4) (z := 0) (i' := nw) (k' := 14) (Or.inr (by decide))).trans ((up2_ne (c := (up2 (up2 c 0 10 ((ll : Nat) : Int)) 5 1 0)) (i := 7) (k := 1) (z := 0) (i' := nw) (k' := 14) (Or.inr (by decide))).trans ((up2_ne (c := (up2 c 0 10 ((ll : Nat) : Int))) (i := 5) (k := 1) (z := 0) (i' := nw) (k' := 14) (Or.inr (by decide))).trans ((up2_ne (c := c) (i := 0) (k := 10) (z := ((ll : Nat) : Int)) (i' := nw) (k' := 14) (Or.inr (by decide))).trans (EL_N hE))))))))) ?_
  exact sw_iret (dX8_group.at 52 rfl) rfl (Nat.le_refl _) (Nat.le_refl _) hv

def EMk (c : Nat → Nat → Int) (e : Nat) : Prop := ∃ (be : Nat → Nat) (le : Nat → Nat) (hd : Nat → Nat) (ls : Nat → Nat) (st : Nat → Int) (pr : Nat → Nat) (iv : Nat → Nat) (fa : Nat → Nat) (eb : Nat → Nat) (ml : Nat → Nat) (mf : Nat → Int) (rw : Nat → Nat) (dn : Nat → Nat) (rk : Nat) (mn : Nat) (mm : Nat), c = em c e be le hd ls st pr iv fa eb ml mf rw dn rk mn mm
theorem em_ne {c : Nat → Nat → Int} {e : Nat} {be : Nat → Nat} {le : Nat → Nat} {hd : Nat → Nat} {ls : Nat → Nat} {st : Nat → Int} {pr : Nat → Nat} {iv : Nat → Nat} {fa : Nat → Nat} {eb : Nat → Nat} {ml : Nat → Nat} {mf : Nat → Int} {rw : Nat → Nat} {dn : Nat → Nat} {rk : Nat} {mn : Nat} {mm : Nat} {a i : Nat} (q : ∀ k, k ≤ 13 → a ≠ e + k) : em c e be le hd ls st pr iv fa eb ml mf rw dn rk mn mm a i = c a i := by
  have q0 : a ≠ e := q 0 (by omega)
  simp [em, q0, q 1 (by omega), q 2 (by omega), q 3 (by omega), q 4 (by omega), q 5 (by omega), q 6 (by omega), q 7 (by omega), q 8 (by omega), q 9 (by omega), q 10 (by omega), q 11 (by omega), q 12 (by omega), q 13 (by omega)]
theorem EMk_same {c c2 : Nat → Nat → Int} {e : Nat} (h : EMk c e) (hs : ∀ q, q ≤ 13 → c2 (e + q) = c (e + q)) : EMk c2 e := by
  obtain ⟨be, le, hd, ls, st, pr, iv, fa, eb, ml, mf, rw, dn, rk, mn, mm, hc⟩ := h
  refine ⟨be, le, hd, ls, st, pr, iv, fa, eb, ml, mf, rw, dn, rk, mn, mm, ?_⟩
  funext a i
  by_cases hq : ∃ q, q ≤ 13 ∧ a = e + q
  · obtain ⟨q, h1, rfl⟩ := hq
    have h2 := congrFun (congrFun hc (e + q)) i
    have e0 : c2 e = c e := hs 0 (by omega)
    have e1 := hs q h1
    have h3 : em c e be le hd ls st pr iv fa eb ml mf rw dn rk mn mm (e + q) i = em c2 e be le hd ls st pr iv fa eb ml mf rw dn rk mn mm (e + q) i := by
      unfold em
      rw [e0, e1]
    rw [congrFun e1 i, ← h3]
    exact h2
  · exact (em_ne (fun k hk h2 => hq ⟨k, hk, h2⟩)).symm
theorem EMk_em {c : Nat → Nat → Int} {e : Nat} {be : Nat → Nat} {le : Nat → Nat} {hd : Nat → Nat} {ls : Nat → Nat} {st : Nat → Int} {pr : Nat → Nat} {iv : Nat → Nat} {fa : Nat → Nat} {eb : Nat → Nat} {ml : Nat → Nat} {mf : Nat → Int} {rw : Nat → Nat} {dn : Nat → Nat} {rk : Nat} {mn : Nat} {mm : Nat} : EMk (em c e be le hd ls st pr iv fa eb ml mf rw dn rk mn mm) e := by
  refine ⟨be, le, hd, ls, st, pr, iv, fa, eb, ml, mf, rw, dn, rk, mn, mm, ?_⟩
  funext a i
  by_cases hq : ∃ q, q ≤ 13 ∧ a = e + q
  · obtain ⟨q, h1, rfl⟩ := hq
    obtain rfl | rfl | rfl | rfl | rfl | rfl | rfl | rfl | rfl | rfl | rfl | rfl | rfl | rfl : q = 0 ∨ q = 1 ∨ q = 2 ∨ q = 3 ∨ q = 4 ∨ q = 5 ∨ q = 6 ∨ q = 7 ∨ q = 8 ∨ q = 9 ∨ q = 10 ∨ q = 11 ∨ q = 12 ∨ q = 13 := by omega
    · by_cases i1 : i = 13
      · subst i1; simp [em]
      · by_cases i2 : i = 14
        · subst i2; simp [em]
        · by_cases i3 : i = 15
          · subst i3; simp [em]
          · simp [em, i1, i2, i3]
    · rw [em_r1, em_r1]
    · rw [em_r2, em_r2]
    · rw [em_r3, em_r3]
    · rw [em_r4, em_r4]
    · rw [em_r5, em_r5]
    · rw [em_r6, em_r6]
    · rw [em_r7, em_r7]
    · rw [em_r8, em_r8]
    · rw [em_r9, em_r9]
    · rw [em_r10, em_r10]
    · rw [em_r11, em_r11]
    · rw [em_r12, em_r12]
    · rw [em_r13, em_r13]
  · exact (em_ne (fun k hk h2 => hq ⟨k, hk, h2⟩)).symm
/-- what group does behind a new table -/
def MG (c : Nat → Nat → Int) (ll : Nat) : Nat → Nat → Int := up2 (up2 (up2 (up2 (up2 (up2 (up2 (up2 c 0 10 ((ll : Nat) : Int)) 5 1 0) 7 1 0) 15 4 0) 15 5 0) 19 0 (-1)) 19 1 (-1)) 19 2 (-1)
def P0 : GD := fun k _ => if k = 11 then 1 else 0
abbrev R0 (nb : Nat → Nat) (n : Nat) : Nat × Int × Nat × Nat × (Nat → Nat) := glP nb n 300 0 0 0 (fun _ => 0)
/-- the table that is picked: the same one on both sides -/
noncomputable def PickP (r : Nat) (bo : Nat → Nat) : GD := by
  classical
  exact if h : CLSg r bo then Classical.choose h else P0
theorem pick_ok {r : Nat} {bo : Nat → Nat} (h : CLSg r bo) : ∃ T, GOOD (PickP r bo) T ∧ gR (PickP r bo) = r ∧ ∀ a b, a < r → b < r → a ≠ b → gB (PickP r bo) a b = bo (5 * a + b) := by
  have e : PickP r bo = Classical.choose h := by unfold PickP; exact dif_pos h
  rw [e]
  exact Classical.choose_spec h
def HCls : Prop := ∀ (r : Nat) (bd : Nat → Nat), 1 ≤ r → r ≤ 5 → BDok r bd → CLSg r (rbd bd) ∨ BAD r (rbd bd)

set_option maxHeartbeats 16000000 in
theorem c_X8_group {G : GG} {j nw nx gn : Nat} {g : Nat → Sh} {c : Nat → Nat → Int} {post : Option AV → AM → Prop} {nb : Nat → Nat} {n : Nat} {tk : Nat} {tf : Nat} {tt : Nat} {rr : Nat} {ll : Nat} {ff : Nat} {pl : Int} {bd : Nat → Nat} (hS : c 1 1 = ((n : Nat) : Int)) (hn : n ≤ 300) (hB : ∀ i, nb i < 256) (hT : ∀ i, i < 300 → c 2 i = sb (nb i)) (hnw : nw = 21 ∨ nw = 35) (hnx : nx = 21 ∨ nx = 35) (hEM : EMk (pm c tk tf tt rr ll ff pl bd) nx) (hcl : HCls)
    (KF : (glP nb n 300 0 0 0 (fun _ => 0)).1 ≠ 0 → ∀ (tk tf tt rr ll : Nat) (bd : Nat → Nat), post (some (vi (-4))) (S nw nx g, 78 + gn, (up2 (pm c tk tf tt rr ll (glP nb n 300 0 0 0 (fun _ => 0)).1 (glP nb n 300 0 0 0 (fun _ => 0)).2.1 bd) 1 1 0)))
    (KN : (glP nb n 300 0 0 0 (fun _ => 0)).1 = 0 → (glP nb n 300 0 0 0 (fun _ => 0)).2.2.1 = 0 → ∀ (tk tf tt : Nat) (be : Nat → Nat) (le : Nat → Nat) (hd : Nat → Nat) (ls : Nat → Nat) (st : Nat → Int) (pr : Nat → Nat) (iv : Nat → Nat) (fa : Nat → Nat) (eb : Nat → Nat) (ml : Nat → Nat) (mf : Nat → Int) (rw : Nat → Nat) (dn : Nat → Nat) (rk : Nat) (mn : Nat) (mm : Nat), EL (em (up2 (pm c tk tf tt (glP nb n 300 0 0 0 (fun _ => 0)).2.2.1 (glP nb n 300 0 0 0 (fun _ => 0)).2.2.2.1 0 (-1) (glP nb n 300 0 0 0 (fun _ => 0)).2.2.2.2) 1 1 0) nx be le hd ls st pr iv fa eb ml mf rw dn 0 0 0) nx P0 → post (some (vi 0)) (S nx nw g, 78 + gn, (MG (em (up2 (pm c tk tf tt (glP nb n 300 0 0 0 (fun _ => 0)).2.2.1 (glP nb n 300 0 0 0 (fun _ => 0)).2.2.2.1 0 (-1) (glP nb n 300 0 0 0 (fun _ => 0)).2.2.2.2) 1 1 0) nx be le hd ls st pr iv fa eb ml mf rw dn 0 0 0) (glP nb n 300 0 0 0 (fun _ => 0)).2.2.2.1)))
    (KB : (glP nb n 300 0 0 0 (fun _ => 0)).1 = 0 → 0 < (glP nb n 300 0 0 0 (fun _ => 0)).2.2.1 → ¬ CLSg (glP nb n 300 0 0 0 (fun _ => 0)).2.2.1 (rbd (glP nb n 300 0 0 0 (fun _ => 0)).2.2.2.2) → (glP nb n 300 0 0 0 (fun _ => 0)).2.2.1 ≤ 5 → BDok (glP nb n 300 0 0 0 (fun _ => 0)).2.2.1 (glP nb n 300 0 0 0 (fun _ => 0)).2.2.2.2 → BAD (glP nb n 300 0 0 0 (fun _ => 0)).2.2.1 (rbd (glP nb n 300 0 0 0 (fun _ => 0)).2.2.2.2) → ∀ (tk tf tt : Nat) (be : Nat → Nat) (le : Nat → Nat) (hd : Nat → Nat) (ls : Nat → Nat) (st : Nat → Int) (pr : Nat → Nat) (iv : Nat → Nat) (fa : Nat → Nat) (eb : Nat → Nat) (ml : Nat → Nat) (mf : Nat → Int) (rw : Nat → Nat) (dn : Nat → Nat) (rk : Nat) (mn : Nat) (mm : Nat), post (some (vi (-5))) (S nw nx g, 78 + gn, (em (up2 (pm c tk tf tt (glP nb n 300 0 0 0 (fun _ => 0)).2.2.1 (glP nb n 300 0 0 0 (fun _ => 0)).2.2.2.1 0 (-1) (glP nb n 300 0 0 0 (fun _ => 0)).2.2.2.2) 1 1 0) nx be le hd ls st pr iv fa eb ml mf rw dn rk mn mm)))
    (KG : (glP nb n 300 0 0 0 (fun _ => 0)).1 = 0 → 0 < (glP nb n 300 0 0 0 (fun _ => 0)).2.2.1 → BDok (glP nb n 300 0 0 0 (fun _ => 0)).2.2.1 (glP nb n 300 0 0 0 (fun _ => 0)).2.2.2.2 → ∀ (P : GD) (T : PT), CLSg (glP nb n 300 0 0 0 (fun _ => 0)).2.2.1 (rbd (glP nb n 300 0 0 0 (fun _ => 0)).2.2.2.2) → P = PickP (glP nb n 300 0 0 0 (fun _ => 0)).2.2.1 (rbd (glP nb n 300 0 0 0 (fun _ => 0)).2.2.2.2) → GOOD P T → gR P = (glP nb n 300 0 0 0 (fun _ => 0)).2.2.1 → (∀ a b, a < gR P → b < gR P → a ≠ b → gB P a b = rbd (glP nb n 300 0 0 0 (fun _ => 0)).2.2.2.2 (5 * a + b)) → ∀ (tk tf tt : Nat) (be : Nat → Nat) (le : Nat → Nat) (hd : Nat → Nat) (ls : Nat → Nat) (st : Nat → Int) (pr : Nat → Nat) (iv : Nat → Nat) (fa : Nat → Nat) (eb : Nat → Nat) (ml : Nat → Nat) (mf : Nat → Int) (rw : Nat → Nat) (dn : Nat → Nat) (rk : Nat) (mn : Nat) (mm : Nat), EL (em (up2 (pm c tk tf tt (glP nb n 300 0 0 0 (fun _ => 0)).2.2.1 (glP nb n 300 0 0 0 (fun _ => 0)).2.2.2.1 0 (-1) (glP nb n 300 0 0 0 (fun _ => 0)).2.2.2.2) 1 1 0) nx be le hd ls st pr iv fa eb ml mf rw dn (gR P) (gN P) (gM P)) nx P → post (some (vi ((gN P : Nat) : Int))) (S nx nw g, 78 + gn, (MG (em (up2 (pm c tk tf tt (glP nb n 300 0 0 0 (fun _ => 0)).2.2.1 (glP nb n 300 0 0 0 (fun _ => 0)).2.2.2.1 0 (-1) (glP nb n 300 0 0 0 (fun _ => 0)).2.2.2.2) 1 1 0) nx be le hd ls st pr iv fa eb ml mf rw dn (gR P) (gN P) (gM P)) (glP nb n 300 0 0 0 (fun _ => 0)).2.2.2.1))) : SM G (j + 8) mX8_group [vr 0] (S nw nx g, 78 + gn, (pm c tk tf tt rr ll ff pl bd)) 0 0 post := by
  refine sm_of wX8_group rfl (Nat.le_of_ble_eq_true rfl) ?_
  have hok := glP_ok (nb := nb) (n := n) 300 0 0 0 (fun _ => 0) (Nat.zero_le _) (by decide) (by decide) BDok_0
  refine g_X8_group_0 hS hn hB hT ?_
  refine fun tk_1 => fun tf_1 => fun tt_1 => fun rr_1 => fun ll_1 => fun ff_1 => fun pl_1 => fun bd_1 => fun q => ⟨?_, ⟨fun q => ?_, fun q => ?_⟩⟩
  · have := q.1; have := hok.1; omega
  · rename_i q2
    obtain ⟨a1, a2, a3⟩ := q2
    have z : (glP nb n 300 0 0 0 (fun _ => 0)).1 = 0 := a1.symm.trans q
    obtain ⟨b1, b2, b3⟩ := a3 z
    obtain ⟨o1, o2, o3, o4, o5⟩ := hok.2 z
    rw [q, a2.trans o1, b1, b2, b3]
    have ebq : ∀ s t, s < (glP nb n 300 0 0 0 (fun _ => 0)).2.2.1 → t < (glP nb n 300 0 0 0 (fun _ => 0)).2.2.1 → t ≠ s → rbd (glP nb n 300 0 0 0 (fun _ => 0)).2.2.2.2 (5 * s + t) = if (glP nb n 300 0 0 0 (fun _ => 0)).2.2.2.2 (s * 5 + t) = 0 then 2 else (glP nb n 300 0 0 0 (fun _ => 0)).2.2.2.2 (s * 5 + t) := fun s t x y w => rbd_at (by have : (glP nb n 300 0 0 0 (fun _ => 0)).2.2.1 ≤ 5 := o2; omega) (by have : (glP nb n 300 0 0 0 (fun _ => 0)).2.2.1 ≤ 5 := o2; omega) w
    have hEM2 : EMk (up2 (pm c tk_1 tf_1 tt_1 (glP nb n 300 0 0 0 (fun _ => 0)).2.2.1 (glP nb n 300 0 0 0 (fun _ => 0)).2.2.2.1 0 (-1) (glP nb n 300 0 0 0 (fun _ => 0)).2.2.2.2) 1 1 0) nx := EMk_same hEM (fun z hz => by
      funext i
      have h1 : nx + z ≠ 1 := by omega
      have h3 : nx + z ≠ 3 := by omega
      have h4 : nx + z ≠ 4 := by omega
      simp [up2, pm, h1, h3, h4])
    obtain ⟨be, le, hd, ls, st, pr, iv, fa, eb, ml, mf, rw, dn, rk, mn, mm, hc⟩ := hEM2
    have hTr : (up2 (pm c tk_1 tf_1 tt_1 (glP nb n 300 0 0 0 (fun _ => 0)).2.2.1 (glP nb n 300 0 0 0 (fun _ => 0)).2.2.2.1 0 (-1) (glP nb n 300 0 0 0 (fun _ => 0)).2.2.2.2) 1 1 0) 3 1 = (((glP nb n 300 0 0 0 (fun _ => 0)).2.2.1 : Nat) : Int) := rfl
    have hLn : ∀ (be : Nat → Nat) (le : Nat → Nat) (hd : Nat → Nat) (ls : Nat → Nat) (st : Nat → Int) (pr : Nat → Nat) (iv : Nat → Nat) (fa : Nat → Nat) (eb : Nat → Nat) (ml : Nat → Nat) (mf : Nat → Int) (rw : Nat → Nat) (dn : Nat → Nat) (rk : Nat) (mn : Nat) (mm : Nat), em (up2 (pm c tk_1 tf_1 tt_1 (glP nb n 300 0 0 0 (fun _ => 0)).2.2.1 (glP nb n 300 0 0 0 (fun _ => 0)).2.2.2.1 0 (-1) (glP nb n 300 0 0 0 (fun _ => 0)).2.2.2.2) 1 1 0) nx be le hd ls st pr iv fa eb ml mf rw dn rk mn mm 3 2 = (((glP nb n 300 0 0 0 (fun _ => 0)).2.2.2.1 : Nat) : Int) := by
      intros
      rw [em_lo hnx (by decide)]
      rfl
    have hTb : ∀ i, i < 25 → (up2 (pm c tk_1 tf_1 tt_1 (glP nb n 300 0 0 0 (fun _ => 0)).2.2.1 (glP nb n 300 0 0 0 (fun _ => 0)).2.2.2.1 0 (-1) (glP nb n 300 0 0 0 (fun _ => 0)).2.2.2.2) 1 1 0) 4 i = (((glP nb n 300 0 0 0 (fun _ => 0)).2.2.2.2 i : Nat) : Int) := fun i hi => (up2_ne (Or.inl (by decide))).trans (pm_r4 _ _ _ _ _ _ _ _ _ hi)
    have hbd : ∀ i, i < 25 → (glP nb n 300 0 0 0 (fun _ => 0)).2.2.2.2 i < 100 := fun i hi => by have := o4.1 i hi; omega
    rw [hc]
    by_cases r0 : (glP nb n 300 0 0 0 (fun _ => 0)).2.2.1 = 0
    · refine g_X8_group_32none (r := (glP nb n 300 0 0 0 (fun _ => 0)).2.2.1) hnx hTr hTb hbd r0 ?_
      refine fun be_1 => ?_
      refine g_X8_group_49 ?_
      have hE0 : EL (em (up2 (pm c tk_1 tf_1 tt_1 (glP nb n 300 0 0 0 (fun _ => 0)).2.2.1 (glP nb n 300 0 0 0 (fun _ => 0)).2.2.2.1 0 (-1) (glP nb n 300 0 0 0 (fun _ => 0)).2.2.2.2) 1 1 0) nx be_1 le hd ls st pr iv fa eb ml mf rw dn 0 0 0) nx P0 := by
        refine ⟨⟨em_f13, em_f14, em_f15⟩, fun s t h => absurd h (by simp [gR, P0]), fun x h => absurd h (by simp [gN, P0]), fun x s h => absurd h (by simp [gN, P0]), fun x y h => absurd h (by simp [gN, P0]), fun i h => absurd h (by simp [gM, P0])⟩
      exact g_X8_group_67 hnx hE0 (hLn _ _ _ _ _ _ _ _ _ _ _ _ _ _ _ _) (KN z r0 tk_1 tf_1 tt_1 _ _ _ _ _ _ _ _ _ _ _ _ _ rk mn mm hE0)
    · have rp : 0 < (glP nb n 300 0 0 0 (fun _ => 0)).2.2.1 := by omega
      by_cases hcg : CLSg (glP nb n 300 0 0 0 (fun _ => 0)).2.2.1 (rbd (glP nb n 300 0 0 0 (fun _ => 0)).2.2.2.2)
      · obtain ⟨T, hG, hgR, hgB⟩ := pick_ok hcg
        generalize hPe : PickP (glP nb n 300 0 0 0 (fun _ => 0)).2.2.1 (rbd (glP nb n 300 0 0 0 (fun _ => 0)).2.2.2.2) = P at hG hgR hgB
        have hGK := hG.1.1
        obtain ⟨f1, f2, f3, f4, f5, f6⟩ := hG.2.1
        have h0 : 0 < gN P := hGK.2.2.2.2.2.2.2.2.2
        have hbg : ∀ s t, s < gR P → t < gR P → t ≠ s → (if (glP nb n 300 0 0 0 (fun _ => 0)).2.2.2.2 (s * 5 + t) = 0 then 2 else (glP nb n 300 0 0 0 (fun _ => 0)).2.2.2.2 (s * 5 + t)) = gB P s t ∧ 2 ≤ gB P s t := fun s t x y w => ⟨by rw [← ebq s t (hgR ▸ x) (hgR ▸ y) w]; exact (hgB s t (hgR ▸ x) (hgR ▸ y) (Ne.symm w)).symm, f6 s t x y w⟩
        refine g_X8_group_32good (P := P) (r := (glP nb n 300 0 0 0 (fun _ => 0)).2.2.1) hnx hTr hTb hbd hgR.symm hGK.1 hGK.2.1 f2 f1 f4 f3 h0 hbg ?_
        refine fun be_1 => fun le_1 => fun hd_1 => fun ls_1 => fun st_1 => fun pr_1 => fun iv_1 => fun fa_1 => fun eb_1 => fun ml_1 => fun mf_1 => fun rw_1 => fun dn_1 => fun q => ?_
        refine g_X8_group_49 ?_
        exact g_X8_group_67 hnx q (hLn _ _ _ _ _ _ _ _ _ _ _ _ _ _ _ _) (KG z rp o4 P T hcg hPe.symm hG hgR (fun a b x y w => hgB a b (hgR ▸ x) (hgR ▸ y) w) tk_1 tf_1 tt_1 _ _ _ _ _ _ _ _ _ _ _ _ _ rk mn mm q)
      · have hbad : BAD (glP nb n 300 0 0 0 (fun _ => 0)).2.2.1 (rbd (glP nb n 300 0 0 0 (fun _ => 0)).2.2.2.2) := (hcl (glP nb n 300 0 0 0 (fun _ => 0)).2.2.1 (glP nb n 300 0 0 0 (fun _ => 0)).2.2.2.2 rp o2 o4).resolve_left hcg
        have hbo : ∀ s t, s < (glP nb n 300 0 0 0 (fun _ => 0)).2.2.1 → t < (glP nb n 300 0 0 0 (fun _ => 0)).2.2.1 → s ≠ t → (2 ≤ (if (glP nb n 300 0 0 0 (fun _ => 0)).2.2.2.2 (s * 5 + t) = 0 then 2 else (glP nb n 300 0 0 0 (fun _ => 0)).2.2.2.2 (s * 5 + t)) ∧ (if (glP nb n 300 0 0 0 (fun _ => 0)).2.2.2.2 (s * 5 + t) = 0 then 2 else (glP nb n 300 0 0 0 (fun _ => 0)).2.2.2.2 (s * 5 + t)) ≤ 12) ∧ rbd (glP nb n 300 0 0 0 (fun _ => 0)).2.2.2.2 (5 * s + t) = (if (glP nb n 300 0 0 0 (fun _ => 0)).2.2.2.2 (s * 5 + t) = 0 then 2 else (glP nb n 300 0 0 0 (fun _ => 0)).2.2.2.2 (s * 5 + t)) ∧ rbd (glP nb n 300 0 0 0 (fun _ => 0)).2.2.2.2 (5 * t + s) = (if (glP nb n 300 0 0 0 (fun _ => 0)).2.2.2.2 (s * 5 + t) = 0 then 2 else (glP nb n 300 0 0 0 (fun _ => 0)).2.2.2.2 (s * 5 + t)) := by
          intro s t x y w
          have o2' : (glP nb n 300 0 0 0 (fun _ => 0)).2.2.1 ≤ 5 := o2
          have sy := o4.2.1 s t (by omega) (by omega)
          have rgg := o4.1 (s * 5 + t) (by omega)
          refine ⟨by split <;> omega, ebq s t x y (Ne.symm w), ?_⟩
          rw [ebq t s y x w]
          have sy2 : (glP nb n 300 0 0 0 (fun _ => 0)).2.2.2.2 (t * 5 + s) = (glP nb n 300 0 0 0 (fun _ => 0)).2.2.2.2 (s * 5 + t) := sy.symm
          rw [sy2]
        refine g_X8_group_32bad (r := (glP nb n 300 0 0 0 (fun _ => 0)).2.2.1) hnx hTr hTb hbd rp o2 hbad hbo ?_
        refine fun be_1 => fun le_1 => fun hd_1 => fun ls_1 => fun st_1 => fun mn_1 => ?_
        exact KB z rp hcg o2 o4 hbad tk_1 tf_1 tt_1 _ _ _ _ _ _ _ _ _ _ _ _ _ _ _ _
  · rename_i q2
    obtain ⟨a1, a2, a3⟩ := q2
    rw [a1, a2]
    exact KF (fun h => q (a1.trans h)) _ _ _ _ _ _

