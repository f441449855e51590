set_option maxHeartbeats 2000000 in
set_option maxRecDepth 20000 in
theorem g_X9_begins_0 {G : GG} {j nw nx gn : Nat} {g : Nat → Sh} {c : Nat → Nat → Int} {post : Option AV → AM → Prop} {nb : Nat → Nat} {n : Nat} {ra : Nat} {rb : Nat} {rt : Nat} {rv : Nat} {rz : Bool} {fk : Nat} {fp : Int} {rk : Nat} {ln : Nat} {bo : Nat → Nat} (hS : c 49 1 = ((n : Nat) : Int)) (hn : n ≤ 300) (hB : ∀ i, nb i < 256) (hT : ∀ i, i < 300 → c 50 i = ((nb i : Nat) : Int))  (hv : (0 ≤ n) ∧ (post none (S nw nx g, 78 + gn, (rm c (tkT nb n 0) (tkF nb n 0) (tkK nb n 0) (vlS nb n 0) false 0 (-1) rk ln bo)))) :
    SW G (j + 3) mX9_begins 0 [some (vr (49))] [] (S nw nx g, 78 + gn, (rm c ra rb rt rv rz fk fp rk ln bo)) B0 post := by
  refine sw_aload_n (dX9_begins.at 0 rfl) rfl rfl ?_
  refine sw_iconst (dX9_begins.at 1 rfl) ?_
  refine sw_putI (dX9_begins.at 2 rfl) fp_X9_108 (S_lt 49 (by decide)) (S_49 nw nx g) rfl ?_
  refine SW.cg (M' := (S nw nx g, 78 + gn, (rm c 0 rb rt rv rz fk fp rk ln bo))) (congrArg (fun m => (S nw nx g, 78 + gn, m)) rm_8) ?_
  refine sw_aload_n (dX9_begins.at 3 rfl) rfl rfl ?_
  refine sw_iconst (dX9_begins.at 4 rfl) ?_
  refine sw_putZ (dX9_begins.at 5 rfl) fp_X9_131 (S_lt 49 (by decide)) (S_49 nw nx g) rfl (by decide) ?_
  refine SW.cg (M' := (S nw nx g, 78 + gn, (rm c 0 rb rt rv false fk fp rk ln bo))) (congrArg (fun m => (S nw nx g, 78 + gn, m)) rm_12f) ?_
  refine sw_aload_n (dX9_begins.at 6 rfl) rfl rfl ?_
  refine sw_iconst (dX9_begins.at 7 rfl) ?_
  refine sw_putI (dX9_begins.at 8 rfl) fp_X9_135 (S_lt 49 (by decide)) (S_49 nw nx g) rfl ?_
  refine SW.cg (M' := (S nw nx g, 78 + gn, (rm c 0 rb rt rv false 0 fp rk ln bo))) (congrArg (fun m => (S nw nx g, 78 + gn, m)) rm_2) ?_
  refine sw_aload_n (dX9_begins.at 9 rfl) rfl rfl ?_
  refine sw_iconst (dX9_begins.at 10 rfl) ?_
  refine sw_putI (dX9_begins.at 11 rfl) fp_X9_13 (S_lt 49 (by decide)) (S_49 nw nx g) rfl ?_
  refine SW.cg (M' := (S nw nx g, 78 + gn, (rm c 0 rb rt rv false 0 (-1) rk ln bo))) (congrArg (fun m => (S nw nx g, 78 + gn, m)) rm_3) ?_
  refine sw_aload_n (dX9_begins.at 12 rfl) rfl rfl ?_
  refine sw_callV (B' := B0) (As := []) (mc := 0) (ms := 0) (dX9_begins.at 13 rfl) lk_X9_138 (S_lt 49 (by decide)) (S_49 nw nx g) rfl rfl (Nat.le_of_ble_eq_true rfl) rfl (Nat.le_refl _) (Nat.le_refl _) ?_
  refine c_X9_next (j := j + 0) hS hn hB hT hv.1 ?_
  replace hv := hv.2
  exact sw_vret (dX9_begins.at 14 rfl) rfl (Nat.le_refl _) (Nat.le_refl _) hv

theorem c_X9_begins {G : GG} {j nw nx gn : Nat} {g : Nat → Sh} {c : Nat → Nat → Int} {post : Option AV → AM → Prop} {nb : Nat → Nat} {n : Nat} {ra : Nat} {rb : Nat} {rt : Nat} {rv : Nat} {rz : Bool} {fk : Nat} {fp : Int} {rk : Nat} {ln : Nat} {bo : Nat → Nat} (hS : c 49 1 = ((n : Nat) : Int)) (hn : n ≤ 300) (hB : ∀ i, nb i < 256) (hT : ∀ i, i < 300 → c 50 i = ((nb i : Nat) : Int)) (K : post none (S nw nx g, 78 + gn, (rm c (tkT nb n 0) (tkF nb n 0) (tkK nb n 0) (vlS nb n 0) false 0 (-1) rk ln bo))) : SM G (j + 4) mX9_begins [vr (49)] (S nw nx g, 78 + gn, (rm c ra rb rt rv rz fk fp rk ln bo)) 0 0 post := by
  refine sm_of wX9_begins rfl (Nat.le_of_ble_eq_true rfl) ?_
  refine g_X9_begins_0 hS hn hB hT ?_
  exact ⟨Nat.zero_le _, K⟩

set_option maxHeartbeats 2000000 in
set_option maxRecDepth 20000 in
theorem g_X9_faults_t {G : GG} {j nw nx gn : Nat} {g : Nat → Sh} {c : Nat → Nat → Int} {post : Option AV → AM → Prop} {w : Nat} {nb : Nat → Nat} {n : Nat} {ra : Nat} {rb : Nat} {rt : Nat} {rv : Nat} {fk : Nat} {fp : Int} {rk : Nat} {ln : Nat} {bo : Nat → Nat} (hS : c 49 1 = ((n : Nat) : Int)) (hn : n ≤ 300) (hB : ∀ i, nb i < 256) (hT : ∀ i, i < 300 → c 50 i = ((nb i : Nat) : Int))  (hv : post none (S nw nx g, 78 + gn, (rm c ra rb rt rv true fk fp rk ln bo))) :
    SW G (j + 0) mX9_faults 0 [some (vr (49)), some (vi (((w : Nat) : Int)))] [] (S nw nx g, 78 + gn, (rm c ra rb rt rv true fk fp rk ln bo)) B0 post := by
  refine sw_aload_n (dX9_faults.at 0 rfl) rfl rfl ?_
  refine sw_getIE (w := bz (true)) (dX9_faults.at 1 rfl) fp_X9_131 (S_lt 49 (by decide)) (S_49 nw nx g) rfl rfl ?_
  refine sw_if_ne (tgt := 25) (dX9_faults.at 2 rfl) (by decide) (by decide) (fun q => ?_) (fun q => ?_)
  · clear q
    exact sw_vret (dX9_faults.at 13 rfl) rfl (Nat.le_refl _) (Nat.le_refl _) hv
  · exact absurd q (by decide)

set_option maxHeartbeats 2000000 in
set_option maxRecDepth 20000 in
theorem g_X9_faults_f {G : GG} {j nw nx gn : Nat} {g : Nat → Sh} {c : Nat → Nat → Int} {post : Option AV → AM → Prop} {w : Nat} {nb : Nat → Nat} {n : Nat} {ra : Nat} {rb : Nat} {rt : Nat} {rv : Nat} {fk : Nat} {fp : Int} {rk : Nat} {ln : Nat} {bo : Nat → Nat} (hS : c 49 1 = ((n : Nat) : Int)) (hn : n ≤ 300) (hB : ∀ i, nb i < 256) (hT : ∀ i, i < 300 → c 50 i = ((nb i : Nat) : Int))  (hv : post none (S nw nx g, 78 + gn, (rm c ra rb rt rv true w ((rb : Nat) : Int) rk ln bo))) :
    SW G (j + 0) mX9_faults 0 [some (vr (49)), some (vi (((w : Nat) : Int)))] [] (S nw nx g, 78 + gn, (rm c ra rb rt rv false fk fp rk ln bo)) B0 post := by
  refine sw_aload_n (dX9_faults.at 0 rfl) rfl rfl ?_
  refine sw_getIE (w := bz (false)) (dX9_faults.at 1 rfl) fp_X9_131 (S_lt 49 (by decide)) (S_49 nw nx g) rfl rfl ?_
  refine sw_if_ne (tgt := 25) (dX9_faults.at 2 rfl) (by decide) (by decide) (fun q => ?_) (fun q => ?_)
  · exact absurd q (by decide)
  · clear q
    refine sw_aload_n (dX9_faults.at 3 rfl) rfl rfl ?_
    refine sw_iconst (dX9_faults.at 4 rfl) ?_
    refine sw_putZ (dX9_faults.at 5 rfl) fp_X9_131 (S_lt 49 (by decide)) (S_49 nw nx g) rfl (by decide) ?_
    refine SW.cg (M' := (S nw nx g, 78 + gn, (rm c ra rb rt rv true fk fp rk ln bo))) (congrArg (fun m => (S nw nx g, 78 + gn, m)) rm_12t) ?_
    refine sw_aload_n (dX9_faults.at 6 rfl) rfl rfl ?_
    refine sw_iload_n (dX9_faults.at 7 rfl) rfl rfl ?_
    refine sw_putI (dX9_faults.at 8 rfl) fp_X9_135 (S_lt 49 (by decide)) (S_49 nw nx g) rfl ?_
    refine SW.cg (M' := (S nw nx g, 78 + gn, (rm c ra rb rt rv true w fp rk ln bo))) (congrArg (fun m => (S nw nx g, 78 + gn, m)) rm_2) ?_
    refine sw_aload_n (dX9_faults.at 9 rfl) rfl rfl ?_
    refine sw_aload_n (dX9_faults.at 10 rfl) rfl rfl ?_
    refine sw_getIE (w := ((rb : Nat) : Int)) (dX9_faults.at 11 rfl) fp_X9_115 (S_lt 49 (by decide)) (S_49 nw nx g) rfl rfl ?_
    refine sw_putI (dX9_faults.at 12 rfl) fp_X9_13 (S_lt 49 (by decide)) (S_49 nw nx g) rfl ?_
    refine SW.cg (M' := (S nw nx g, 78 + gn, (rm c ra rb rt rv true w ((rb : Nat) : Int) rk ln bo))) (congrArg (fun m => (S nw nx g, 78 + gn, m)) rm_3) ?_
    exact sw_vret (dX9_faults.at 13 rfl) rfl (Nat.le_refl _) (Nat.le_refl _) hv

theorem c_X9_faults_t {G : GG} {j nw nx gn : Nat} {g : Nat → Sh} {c : Nat → Nat → Int} {post : Option AV → AM → Prop} {nb : Nat → Nat} {n : Nat} {ra : Nat} {rb : Nat} {rt : Nat} {rv : Nat} {fk : Nat} {fp : Int} {rk : Nat} {ln : Nat} {bo : Nat → Nat} {w : Nat} (hS : c 49 1 = ((n : Nat) : Int)) (hn : n ≤ 300) (hB : ∀ i, nb i < 256) (hT : ∀ i, i < 300 → c 50 i = ((nb i : Nat) : Int)) (K : post none (S nw nx g, 78 + gn, (rm c ra rb rt rv true fk fp rk ln bo))) : SM G (j + 1) mX9_faults [vr (49), vi (((w : Nat) : Int))] (S nw nx g, 78 + gn, (rm c ra rb rt rv true fk fp rk ln bo)) 0 0 post := by
  refine sm_of wX9_faults rfl (Nat.le_of_ble_eq_true rfl) ?_
  refine g_X9_faults_t hS hn hB hT ?_
  exact K
theorem c_X9_faults_f {G : GG} {j nw nx gn : Nat} {g : Nat → Sh} {c : Nat → Nat → Int} {post : Option AV → AM → Prop} {nb : Nat → Nat} {n : Nat} {ra : Nat} {rb : Nat} {rt : Nat} {rv : Nat} {fk : Nat} {fp : Int} {rk : Nat} {ln : Nat} {bo : Nat → Nat} {w : Nat} (hS : c 49 1 = ((n : Nat) : Int)) (hn : n ≤ 300) (hB : ∀ i, nb i < 256) (hT : ∀ i, i < 300 → c 50 i = ((nb i : Nat) : Int)) (K : post none (S nw nx g, 78 + gn, (rm c ra rb rt rv true w ((rb : Nat) : Int) rk ln bo))) : SM G (j + 1) mX9_faults [vr (49), vi (((w : Nat) : Int))] (S nw nx g, 78 + gn, (rm c ra rb rt rv false fk fp rk ln bo)) 0 0 post := by
  refine sm_of wX9_faults rfl (Nat.le_of_ble_eq_true rfl) ?_
  refine g_X9_faults_f hS hn hB hT ?_
  exact K

set_option maxHeartbeats 2000000 in
set_option maxRecDepth 20000 in
theorem g_X9_isWord_2 {G : GG} {j nw nx gn : Nat} {g : Nat → Sh} {c : Nat → Nat → Int} {post : Option AV → AM → Prop} {nb : Nat → Nat} {n : Nat} {ra : Nat} {rb : Nat} {rt : Nat} {rv : Nat} {rz : Bool} {fk : Nat} {fp : Int} {rk : Nat} {ln : Nat} {bo : Nat → Nat} (hS : c 49 1 = ((n : Nat) : Int)) (hn : n ≤ 300) (hB : ∀ i, nb i < 256) (hT : ∀ i, i < 300 → c 50 i = ((nb i : Nat) : Int))  (hv : (rt < 2147483648) ∧ (((rt ≠ 1) → post (some (vi (0))) (S nw nx g, 78 + gn, (rm c ra rb rt rv rz fk fp rk ln bo))) ∧ ((rt = 1) → (rb ≤ ra) ∧ ((ra - rb < 2147483648) ∧ (((ra - rb ≠ 5) → post (some (vi (0))) (S nw nx g, 78 + gn, (rm c ra rb rt rv rz fk fp rk ln bo))) ∧ ((ra - rb = 5) → (rb + 0 < 300) ∧ ((nb (rb + 0) < 2147483648) ∧ (((nb (rb + 0) ≠ 103) → post (some (vi (0))) (S nw nx g, 78 + gn, (rm c ra rb rt rv rz fk fp rk ln bo))) ∧ ((nb (rb + 0) = 103) → (rb + 1 < 300) ∧ ((nb (rb + 1) < 2147483648) ∧ (((nb (rb + 1) ≠ 114) → post (some (vi (0))) (S nw nx g, 78 + gn, (rm c ra rb rt rv rz fk fp rk ln bo))) ∧ ((nb (rb + 1) = 114) → (rb + 2 < 300) ∧ ((nb (rb + 2) < 2147483648) ∧ (((nb (rb + 2) ≠ 111) → post (some (vi (0))) (S nw nx g, 78 + gn, (rm c ra rb rt rv rz fk fp rk ln bo))) ∧ ((nb (rb + 2) = 111) → (rb + 3 < 300) ∧ ((nb (rb + 3) < 2147483648) ∧ (((nb (rb + 3) ≠ 117) → post (some (vi (0))) (S nw nx g, 78 + gn, (rm c ra rb rt rv rz fk fp rk ln bo))) ∧ ((nb (rb + 3) = 117) → (rb + 4 < 300) ∧ ((nb (rb + 4) < 2147483648) ∧ (((nb (rb + 4) ≠ 112) → post (some (vi (0))) (S nw nx g, 78 + gn, (rm c ra rb rt rv rz fk fp rk ln bo))) ∧ ((nb (rb + 4) = 112) → post (some (vi (1))) (S nw nx g, 78 + gn, (rm c ra rb rt rv rz fk fp rk ln bo))))))))))))))))))))))) :
    SW G (j + 4) mX9_isWord 0 [some (vr (49)), some (vf 2), none, none] [] (S nw nx g, 78 + gn, (rm c ra rb rt rv rz fk fp rk ln bo)) B0 post := by
  refine sw_aload_n (dX9_isWord.at 0 rfl) rfl rfl ?_
  refine sw_getIE (w := ((rt : Nat) : Int)) (dX9_isWord.at 1 rfl) fp_X9_121 (S_lt 49 (by decide)) (S_49 nw nx g) rfl rfl ?_
  refine sw_iconst (dX9_isWord.at 2 rfl) ?_
  refine sw_icmpN_ne rt 1 (tgt := 28) (dX9_isWord.at 3 rfl) (by decide) hv.1 (by decide) (fun q => ?_) (fun q => ?_)
  · replace hv := hv.2.1 q
    refine sw_iconst (dX9_isWord.at 14 rfl) ?_
    refine sw_istore_n (lo' := [some (vr (49)), some (vf 2), some (vi (0)), none]) (dX9_isWord.at 15 rfl) rfl (by decide) rfl ?_
    refine sw_iconst (dX9_isWord.at 16 rfl) ?_
    refine sw_istore_n (lo' := [some (vr (49)), some (vf 2), some (vi (0)), some (vi (0))]) (dX9_isWord.at 17 rfl) rfl (by decide) rfl ?_
    refine sw_iload_n (dX9_isWord.at 18 rfl) rfl rfl ?_
    refine sw_aload_nf (dX9_isWord.at 19 rfl) rfl rfl ?_
    refine sw_callF (B' := B0) (i := 0) (As := []) (by decide) (dX9_isWord.at 20 rfl) lk_X9_141 rfl rfl (Nat.le_of_ble_eq_true rfl) rfl (Nat.le_refl _) (Nat.le_refl _) ?_
    refine c_J0_length_2 (j := j + 2)  ?_
    refine sw_icmp_ge (tgt := 75) (dX9_isWord.at 21 rfl) (by decide) (by decide) (by decide) (fun q => ?_) (fun q => ?_)
    · exact absurd q (by decide)
    · clear q
      refine sw_iload_n (dX9_isWord.at 22 rfl) rfl rfl ?_
      refine sw_if_eq (tgt := 75) (dX9_isWord.at 23 rfl) (by decide) (by decide) (fun q => ?_) (fun q => ?_)
      · clear q
        refine sw_iload_n (dX9_isWord.at 41 rfl) rfl rfl ?_
        exact sw_zret (dX9_isWord.at 42 rfl) rfl (by decide) (Nat.le_refl _) (Nat.le_refl _) hv
      · exact absurd q (by decide)
  · replace hv := hv.2.2 q
    refine sw_aload_n (dX9_isWord.at 4 rfl) rfl rfl ?_
    refine sw_getIE (w := ((ra : Nat) : Int)) (dX9_isWord.at 5 rfl) fp_X9_108 (S_lt 49 (by decide)) (S_49 nw nx g) rfl rfl ?_
    refine sw_aload_n (dX9_isWord.at 6 rfl) rfl rfl ?_
    refine sw_getIE (w := ((rb : Nat) : Int)) (dX9_isWord.at 7 rfl) fp_X9_115 (S_lt 49 (by decide)) (S_49 nw nx g) rfl rfl ?_
    refine sw_isub (dX9_isWord.at 8 rfl) ?_
    refine sw_topI (y := ((ra - rb : Nat) : Int)) (congrArg _ (Int.ofNat_sub hv.1).symm) ?_
    replace hv := hv.2
    refine sw_aload_nf (dX9_isWord.at 9 rfl) rfl rfl ?_
    refine sw_callF (B' := B0) (i := 0) (As := []) (by decide) (dX9_isWord.at 10 rfl) lk_X9_141 rfl rfl (Nat.le_of_ble_eq_true rfl) rfl (Nat.le_refl _) (Nat.le_refl _) ?_
    refine c_J0_length_2 (j := j + 2)  ?_
    refine sw_icmpN_ne (ra - rb) 5 (tgt := 28) (dX9_isWord.at 11 rfl) (by decide) hv.1 (by decide) (fun q => ?_) (fun q => ?_)
    · replace hv := hv.2.1 q
      refine sw_iconst (dX9_isWord.at 14 rfl) ?_
      refine sw_istore_n (lo' := [some (vr (49)), some (vf 2), some (vi (0)), none]) (dX9_isWord.at 15 rfl) rfl (by decide) rfl ?_
      refine sw_iconst (dX9_isWord.at 16 rfl) ?_
      refine sw_istore_n (lo' := [some (vr (49)), some (vf 2), some (vi (0)), some (vi (0))]) (dX9_isWord.at 17 rfl) rfl (by decide) rfl ?_
      refine sw_iload_n (dX9_isWord.at 18 rfl) rfl rfl ?_
      refine sw_aload_nf (dX9_isWord.at 19 rfl) rfl rfl ?_
      refine sw_callF (B' := B0) (i := 0) (As := []) (by decide) (dX9_isWord.at 20 rfl) lk_X9_141 rfl rfl (Nat.le_of_ble_eq_true rfl) rfl (Nat.le_refl _) (Nat.le_refl _) ?_
      refine c_J0_length_2 (j := j + 2)  ?_
      refine sw_icmp_ge (tgt := 75) (dX9_isWord.at 21 rfl) (by decide) (by decide) (by decide) (fun q => ?_) (fun q => ?_)
      · exact absurd q (by decide)
      · clear q
        refine sw_iload_n (dX9_isWord.at 22 rfl) rfl rfl ?_
        refine sw_if_eq (tgt := 75) (dX9_isWord.at 23 rfl) (by decide) (by decide) (fun q => ?_) (fun q => ?_)
        · clear q
          refine sw_iload_n (dX9_isWord.at 41 rfl) rfl rfl ?_
          exact sw_zret (dX9_isWord.at 42 rfl) rfl (by decide) (Nat.le_refl _) (Nat.le_refl _) hv
        · exact absurd q (by decide)
    · replace hv := hv.2.2 q
      refine sw_iconst (dX9_isWord.at 12 rfl) ?_
      refine sw_goto (tgt := 29) (dX9_isWord.at 13 rfl) (by decide) ?_
      refine sw_istore_n (lo' := [some (vr (49)), some (vf 2), some (vi (1)), none]) (dX9_isWord.at 15 rfl) rfl (by decide) rfl ?_
      refine sw_iconst (dX9_isWord.at 16 rfl) ?_
      refine sw_istore_n (lo' := [some (vr (49)), some (vf 2), some (vi (1)), some (vi (0))]) (dX9_isWord.at 17 rfl) rfl (by decide) rfl ?_
      refine sw_iload_n (dX9_isWord.at 18 rfl) rfl rfl ?_
      refine sw_aload_nf (dX9_isWord.at 19 rfl) rfl rfl ?_
      refine sw_callF (B' := B0) (i := 0) (As := []) (by decide) (dX9_isWord.at 20 rfl) lk_X9_141 rfl rfl (Nat.le_of_ble_eq_true rfl) rfl (Nat.le_refl _) (Nat.le_refl _) ?_
      refine c_J0_length_2 (j := j + 2)  ?_
      refine sw_icmp_ge (tgt := 75) (dX9_isWord.at 21 rfl) (by decide) (by decide) (by decide) (fun q => ?_) (fun q => ?_)
      · exact absurd q (by decide)
      · clear q
        refine sw_iload_n (dX9_isWord.at 22 rfl) rfl rfl ?_
        refine sw_if_eq (tgt := 75) (dX9_isWord.at 23 rfl) (by decide) (by decide) (fun q => ?_) (fun q => ?_)
        · exact absurd q (by decide)
        · clear q
          refine sw_aload_n (dX9_isWord.at 24 rfl) rfl rfl ?_
          refine sw_getR (dX9_isWord.at 25 rfl) fp_X9_7 (S_lt 49 (by decide)) (S_49 nw nx g) rfl rfl ?_
          refine sw_aload_n (dX9_isWord.at 26 rfl) rfl rfl ?_
          refine sw_getIE (w := ((rb : Nat) : Int)) (dX9_isWord.at 27 rfl) fp_X9_115 (S_lt 49 (by decide)) (S_49 nw nx g) rfl rfl ?_
          refine sw_iload_n (dX9_isWord.at 28 rfl) rfl rfl ?_
          refine sw_iadd (dX9_isWord.at 29 rfl) ?_
          refine sw_topI (y := ((rb + 0 : Nat) : Int)) (by first | rfl | (congr 1)) ?_
          refine sw_ialdN (rb + 0) (w := ((nb (rb + 0) : Nat) : Int)) (dX9_isWord.at 30 rfl) (S_lt 50 (by decide)) (S_50 nw nx g) (by decide) hv.1 (hT _ hv.1) ?_
          replace hv := hv.2
          refine sw_aload_nf (dX9_isWord.at 31 rfl) rfl rfl ?_
          refine sw_iload_n (dX9_isWord.at 32 rfl) rfl rfl ?_
          refine sw_callF (B' := B0) (i := 0) (As := [vi (0)]) (by decide) (dX9_isWord.at 33 rfl) lk_X9_147 rfl rfl (Nat.le_of_ble_eq_true rfl) rfl (Nat.le_refl _) (Nat.le_refl _) ?_
          refine c_J0_charAt_2_0 (j := j + 0)  ?_
          refine sw_icmpN_ne (nb (rb + 0)) 103 (tgt := 67) (dX9_isWord.at 34 rfl) (by decide) hv.1 (by decide) (fun q => ?_) (fun q => ?_)
          · replace hv := hv.2.1 q
            refine sw_iconst (dX9_isWord.at 37 rfl) ?_
            refine sw_istore_n (lo' := [some (vr (49)), some (vf 2), some (vi (0)), some (vi (0))]) (dX9_isWord.at 38 rfl) rfl (by decide) rfl ?_
            refine sw_iinc (lo' := [some (vr (49)), some (vf 2), some (vi (0)), some (vi (1))]) (dX9_isWord.at 39 rfl) rfl (by decide) rfl ?_
            refine sw_goto (tgt := 32) (dX9_isWord.at 40 rfl) (by decide) ?_
            refine sw_iload_n (dX9_isWord.at 18 rfl) rfl rfl ?_
            refine sw_aload_nf (dX9_isWord.at 19 rfl) rfl rfl ?_
            refine sw_callF (B' := B0) (i := 0) (As := []) (by decide) (dX9_isWord.at 20 rfl) lk_X9_141 rfl rfl (Nat.le_of_ble_eq_true rfl) rfl (Nat.le_refl _) (Nat.le_refl _) ?_
            refine c_J0_length_2 (j := j + 2)  ?_
            refine sw_icmp_ge (tgt := 75) (dX9_isWord.at 21 rfl) (by decide) (by decide) (by decide) (fun q => ?_) (fun q => ?_)
            · exact absurd q (by decide)
            · clear q
              refine sw_iload_n (dX9_isWord.at 22 rfl) rfl rfl ?_
              refine sw_if_eq (tgt := 75) (dX9_isWord.at 23 rfl) (by decide) (by decide) (fun q => ?_) (fun q => ?_)
              · clear q
                refine sw_iload_n (dX9_isWord.at 41 rfl) rfl rfl ?_
                exact sw_zret (dX9_isWord.at 42 rfl) rfl (by decide) (Nat.le_refl _) (Nat.le_refl _) hv
              · exact absurd q (by decide)
          · replace hv := hv.2.2 q
            refine sw_iconst (dX9_isWord.at 35 rfl) ?_
            refine sw_goto (tgt := 68) (dX9_isWord.at 36 rfl) (by decide) ?_
            refine sw_istore_n (lo' := [some (vr (49)), some (vf 2), some (vi (1)), some (vi (0))]) (dX9_isWord.at 38 rfl) rfl (by decide) rfl ?_
            refine sw_iinc (lo' := [some (vr (49)), some (vf 2), some (vi (1)), some (vi (1))]) (dX9_isWord.at 39 rfl) rfl (by decide) rfl ?_
            refine sw_goto (tgt := 32) (dX9_isWord.at 40 rfl) (by decide) ?_
            refine sw_iload_n (dX9_isWord.at 18 rfl) rfl rfl ?_
            refine sw_aload_nf (dX9_isWord.at 19 rfl) rfl rfl ?_
            refine sw_callF (B' := B0) (i := 0) (As := []) (by decide) (dX9_isWord.at 20 rfl) lk_X9_141 rfl rfl (Nat.le_of_ble_eq_true rfl) rfl (Nat.le_refl _) (Nat.le_refl _) ?_
            refine c_J0_length_2 (j := j + 2)  ?_
            refine sw_icmp_ge (tgt := 75) (dX9_isWord.at 21 rfl) (by decide) (by decide) (by decide) (fun q => ?_) (fun q => ?_)
            · exact absurd q (by decide)
            · clear q
              refine sw_iload_n (dX9_isWord.at 22 rfl) rfl rfl ?_
              refine sw_if_eq (tgt := 75) (dX9_isWord.at 23 rfl) (by decide) (by decide) (fun q => ?_) (fun q => ?_)
              · exact absurd q (by decide)
              · clear q
                refine sw_aload_n (dX9_isWord.at 24 rfl) rfl rfl ?_
                refine sw_getR (dX9_isWord.at 25 rfl) fp_X9_7 (S_lt 49 (by decide)) (S_49 nw nx g) rfl rfl ?_
                refine sw_aload_n (dX9_isWord.at 26 rfl) rfl rfl ?_
                refine sw_getIE (w := ((rb : Nat) : Int)) (dX9_isWord.at 27 rfl) fp_X9_115 (S_lt 49 (by decide)) (S_49 nw nx g) rfl rfl ?_
                refine sw_iload_n (dX9_isWord.at 28 rfl) rfl rfl ?_
                refine sw_iadd (dX9_isWord.at 29 rfl) ?_
                refine sw_topI (y := ((rb + 1 : Nat) : Int)) (by first | rfl | (congr 1)) ?_
                refine sw_ialdN (rb + 1) (w := ((nb (rb + 1) : Nat) : Int)) (dX9_isWord.at 30 rfl) (S_lt 50 (by decide)) (S_50 nw nx g) (by decide) hv.1 (hT _ hv.1) ?_
                replace hv := hv.2
                refine sw_aload_nf (dX9_isWord.at 31 rfl) rfl rfl ?_
                refine sw_iload_n (dX9_isWord.at 32 rfl) rfl rfl ?_
                refine sw_callF (B' := B0) (i := 0) (As := [vi (1)]) (by decide) (dX9_isWord.at 33 rfl) lk_X9_147 rfl rfl (Nat.le_of_ble_eq_true rfl) rfl (Nat.le_refl _) (Nat.le_refl _) ?_
                refine c_J0_charAt_2_1 (j := j + 0)  ?_
                refine sw_icmpN_ne (nb (rb + 1)) 114 (tgt := 67) (dX9_isWord.at 34 rfl) (by decide) hv.1 (by decide) (fun q => ?_) (fun q => ?_)
                · replace hv := hv.2.1 q
                  refine sw_iconst (dX9_isWord.at 37 rfl) ?_
                  refine sw_istore_n (lo' := [some (vr (49)), some (vf 2), some (vi (0)), some (vi (1))]) (dX9_isWord.at 38 rfl) rfl (by decide) rfl ?_
                  refine sw_iinc (lo' := [some (vr (49)), some (vf 2), some (vi (0)), some (vi (2))]) (dX9_isWord.at 39 rfl) rfl (by decide) rfl ?_
                  refine sw_goto (tgt := 32) (dX9_isWord.at 40 rfl) (by decide) ?_
                  refine sw_iload_n (dX9_isWord.at 18 rfl) rfl rfl ?_
                  refine sw_aload_nf (dX9_isWord.at 19 rfl) rfl rfl ?_
                  refine sw_callF (B' := B0) (i := 0) (As := []) (by decide) (dX9_isWord.at 20 rfl) lk_X9_141 rfl rfl (Nat.le_of_ble_eq_true rfl) rfl (Nat.le_refl _) (Nat.le_refl _) ?_
                  refine c_J0_length_2 (j := j + 2)  ?_
                  refine sw_icmp_ge (tgt := 75) (dX9_isWord.at 21 rfl) (by decide) (by decide) (by decide) (fun q => ?_) (fun q => ?_)
                  · exact absurd q (by decide)
                  · clear q
                    refine sw_iload_n (dX9_isWord.at 22 rfl) rfl rfl ?_
                    refine sw_if_eq (tgt := 75) (dX9_isWord.at 23 rfl) (by decide) (by decide) (fun q => ?_) (fun q => ?_)
                    · clear q
                      refine sw_iload_n (dX9_isWord.at 41 rfl) rfl rfl ?_
                      exact sw_zret (dX9_isWord.at 42 rfl) rfl (by decide) (Nat.le_refl _) (Nat.le_refl _) hv
                    · exact absurd q (by decide)
                · replace hv := hv.2.2 q
                  refine sw_iconst (dX9_isWord.at 35 rfl) ?_
                  refine sw_goto (tgt := 68) (dX9_isWord.at 36 rfl) (by decide) ?_
                  refine sw_istore_n (lo' := [some (vr (49)), some (vf 2), some (vi (1)), some (vi (1))]) (dX9_isWord.at 38 rfl) rfl (by decide) rfl ?_
                  refine sw_iinc (lo' := [some (vr (49)), some (vf 2), some (vi (1)), some (vi (2))]) (dX9_isWord.at 39 rfl) rfl (by decide) rfl ?_
                  refine sw_goto (tgt := 32) (dX9_isWord.at 40 rfl) (by decide) ?_
                  refine sw_iload_n (dX9_isWord.at 18 rfl) rfl rfl ?_
                  refine sw_aload_nf (dX9_isWord.at 19 rfl) rfl rfl ?_
                  refine sw_callF (B' := B0) (i := 0) (As := []) (by decide) (dX9_isWord.at 20 rfl) lk_X9_141 rfl rfl (Nat.le_of_ble_eq_true rfl) rfl (Nat.le_refl _) (Nat.le_refl _) ?_
                  refine c_J0_length_2 (j := j + 2)  ?_
                  refine sw_icmp_ge (tgt := 75) (dX9_isWord.at 21 rfl) (by decide) (by decide) (by decide) (fun q => ?_) (fun q => ?_)
                  · exact absurd q (by decide)
                  · clear q
                    refine sw_iload_n (dX9_isWord.at 22 rfl) rfl rfl ?_
                    refine sw_if_eq (tgt := 75) (dX9_isWord.at 23 rfl) (by decide) (by decide) (fun q => ?_) (fun q => ?_)
                    · exact absurd q (by decide)
                    · clear q
                      refine sw_aload_n (dX9_isWord.at 24 rfl) rfl rfl ?_
                      refine sw_getR (dX9_isWord.at 25 rfl) fp_X9_7 (S_lt 49 (by decide)) (S_49 nw nx g) rfl rfl ?_
                      refine sw_aload_n (dX9_isWord.at 26 rfl) rfl rfl ?_
                      refine sw_getIE (w := ((rb : Nat) : Int)) (dX9_isWord.at 27 rfl) fp_X9_115 (S_lt 49 (by decide)) (S_49 nw nx g) rfl rfl ?_
                      refine sw_iload_n (dX9_isWord.at 28 rfl) rfl rfl ?_
                      refine sw_iadd (dX9_isWord.at 29 rfl) ?_
                      refine sw_topI (y := ((rb + 2 : Nat) : Int)) (by first | rfl | (congr 1)) ?_
                      refine sw_ialdN (rb + 2) (w := ((nb (rb + 2) : Nat) : Int)) (dX9_isWord.at 30 rfl) (S_lt 50 (by decide)) (S_50 nw nx g) (by decide) hv.1 (hT _ hv.1) ?_
                      replace hv := hv.2
                      refine sw_aload_nf (dX9_isWord.at 31 rfl) rfl rfl ?_
                      refine sw_iload_n (dX9_isWord.at 32 rfl) rfl rfl ?_
                      refine sw_callF (B' := B0) (i := 0) (As := [vi (2)]) (by decide) (dX9_isWord.at 33 rfl) lk_X9_147 rfl rfl (Nat.le_of_ble_eq_true rfl) rfl (Nat.le_refl _) (Nat.le_refl _) ?_
                      refine c_J0_charAt_2_2 (j := j + 0)  ?_
                      refine sw_icmpN_ne (nb (rb + 2)) 111 (tgt := 67) (dX9_isWord.at 34 rfl) (by decide) hv.1 (by decide) (fun q => ?_) (fun q => ?_)
                      · replace hv := hv.2.1 q
                        refine sw_iconst (dX9_isWord.at 37 rfl) ?_
                        refine sw_istore_n (lo' := [some (vr (49)), some (vf 2), some (vi (0)), some (vi (2))]) (dX9_isWord.at 38 rfl) rfl (by decide) rfl ?_
                        refine sw_iinc (lo' := [some (vr (49)), some (vf 2), some (vi (0)), some (vi (3))]) (dX9_isWord.at 39 rfl) rfl (by decide) rfl ?_
                        refine sw_goto (tgt := 32) (dX9_isWord.at 40 rfl) (by decide) ?_
                        refine sw_iload_n (dX9_isWord.at 18 rfl) rfl rfl ?_
                        refine sw_aload_nf (dX9_isWord.at 19 rfl) rfl rfl ?_
                        refine sw_callF (B' := B0) (i := 0) (As := []) (by decide) (dX9_isWord.at 20 rfl) lk_X9_141 rfl rfl (Nat.le_of_ble_eq_true rfl) rfl (Nat.le_refl _) (Nat.le_refl _) ?_
                        refine c_J0_length_2 (j := j + 2)  ?_
                        refine sw_icmp_ge (tgt := 75) (dX9_isWord.at 21 rfl) (by decide) (by decide) (by decide) (fun q => ?_) (fun q => ?_)
                        · exact absurd q (by decide)
                        · clear q
                          refine sw_iload_n (dX9_isWord.at 22 rfl) rfl rfl ?_
                          refine sw_if_eq (tgt := 75) (dX9_isWord.at 23 rfl) (by decide) (by decide) (fun q => ?_) (fun q => ?_)
                          · clear q
                            refine sw_iload_n (dX9_isWord.at 41 rfl) rfl rfl ?_
                            exact sw_zret (dX9_isWord.at 42 rfl) rfl (by decide) (Nat.le_refl _) (Nat.le_refl _) hv
                          · exact absurd q (by decide)
                      · replace hv := hv.2.2 q
                        refine sw_iconst (dX9_isWord.at 35 rfl) ?_
                        refine sw_goto (tgt := 68) (dX9_isWord.at 36 rfl) (by decide) ?_
                        refine sw_istore_n (lo' := [some (vr (49)), some (vf 2), some (vi (1)), some (vi (2))]) (dX9_isWord.at 38 rfl) rfl (by decide) rfl ?_
                        refine sw_iinc (lo' := [some (vr (49)), some (vf 2), some (vi (1)), some (vi (3))]) (dX9_isWord.at 39 rfl) rfl (by decide) rfl ?_
                        refine sw_goto (tgt := 32) (dX9_isWord.at 40 rfl) (by decide) ?_
                        refine sw_iload_n (dX9_isWord.at 18 rfl) rfl rfl ?_
                        refine sw_aload_nf (dX9_isWord.at 19 rfl) rfl rfl ?_
                        refine sw_callF (B' := B0) (i := 0) (As := []) (by decide) (dX9_isWord.at 20 rfl) lk_X9_141 rfl rfl (Nat.le_of_ble_eq_true rfl) rfl (Nat.le_refl _) (Nat.le_refl _) ?_
                        refine c_J0_length_2 (j := j + 2)  ?_
                        refine sw_icmp_ge (tgt := 75) (dX9_isWord.at 21 rfl) (by decide) (by decide) (by decide) (fun q => ?_) (fun q => ?_)
                        · exact absurd q (by decide)
                        · clear q
                          refine sw_iload_n (dX9_isWord.at 22 rfl) rfl rfl ?_
                          refine sw_if_eq (tgt := 75) (dX9_isWord.at 23 rfl) (by decide) (by decide) (fun q => ?_) (fun q => ?_)
                          · exact absurd q (by decide)
                          · clear q
                            refine sw_aload_n (dX9_isWord.at 24 rfl) rfl rfl ?_
                            refine sw_getR (dX9_isWord.at 25 rfl) fp_X9_7 (S_lt 49 (by decide)) (S_49 nw nx g) rfl rfl ?_
                            refine sw_aload_n (dX9_isWord.at 26 rfl) rfl rfl ?_
                            refine sw_getIE (w := ((rb : Nat) : Int)) (dX9_isWord.at 27 rfl) fp_X9_115 (S_lt 49 (by decide)) (S_49 nw nx g) rfl rfl ?_
                            refine sw_iload_n (dX9_isWord.at 28 rfl) rfl rfl ?_
                            refine sw_iadd (dX9_isWord.at 29 rfl) ?_
                            refine sw_topI (y := ((rb + 3 : Nat) : Int)) (by first | rfl | (congr 1)) ?_
                            refine sw_ialdN (rb + 3) (w := ((nb (rb + 3) : Nat) : Int)) (dX9_isWord.at 30 rfl) (S_lt 50 (by decide)) (S_50 nw nx g) (by decide) hv.1 (hT _ hv.1) ?_
                            replace hv := hv.2
                            refine sw_aload_nf (dX9_isWord.at 31 rfl) rfl rfl ?_
                            refine sw_iload_n (dX9_isWord.at 32 rfl) rfl rfl ?_
                            refine sw_callF (B' := B0) (i := 0) (As := [vi (3)]) (by decide) (dX9_isWord.at 33 rfl) lk_X9_147 rfl rfl (Nat.le_of_ble_eq_true rfl) rfl (Nat.le_refl _) (Nat.le_refl _) ?_
                            refine c_J0_charAt_2_3 (j := j + 0)  ?_
                            refine sw_icmpN_ne (nb (rb + 3)) 117 (tgt := 67) (dX9_isWord.at 34 rfl) (by decide) hv.1 (by decide) (fun q => ?_) (fun q => ?_)
                            · replace hv := hv.2.1 q
                              refine sw_iconst (dX9_isWord.at 37 rfl) ?_
                              refine sw_istore_n (lo' := [some (vr (49)), some (vf 2), some (vi (0)), some (vi (3))]) (dX9_isWord.at 38 rfl) rfl (by decide) rfl ?_
                              refine sw_iinc (lo' := [some (vr (49)), some (vf 2), some (vi (0)), some (vi (4))]) (dX9_isWord.at 39 rfl) rfl (by decide) rfl ?_
                              refine sw_goto (tgt := 32) (dX9_isWord.at 40 rfl) (by decide) ?_
                              refine sw_iload_n (dX9_isWord.at 18 rfl) rfl rfl ?_
                              refine sw_aload_nf (dX9_isWord.at 19 rfl) rfl rfl ?_
                              refine sw_callF (B' := B0) (i := 0) (As := []) (by decide) (dX9_isWord.at 20 rfl) lk_X9_141 rfl rfl (Nat.le_of_ble_eq_true rfl) rfl (Nat.le_refl _) (Nat.le_refl _) ?_
                              refine c_J0_length_2 (j := j + 2)  ?_
                              refine sw_icmp_ge (tgt := 75) (dX9_isWord.at 21 rfl) (by decide) (by decide) (by decide) (fun q => ?_) (fun q => ?_)
                              · exact absurd q (by decide)
                              · clear q
                                refine sw_iload_n (dX9_isWord.at 22 rfl) rfl rfl ?_
                                refine sw_if_eq (tgt := 75) (dX9_isWord.at 23 rfl) (by decide) (by decide) (fun q => ?_) (fun q => ?_)
                                · clear q
                                  refine sw_iload_n (dX9_isWord.at 41 rfl) rfl rfl ?_
                                  exact sw_zret (dX9_isWord.at 42 rfl) rfl (by decide) (Nat.le_refl _) (Nat.le_refl _) hv
                                · exact absurd q (by decide)
                            · replace hv := hv.2.2 q
                              refine sw_iconst (dX9_isWord.at 35 rfl) ?_
                              refine sw_goto (tgt := 68) (dX9_isWord.at 36 rfl) (by decide) ?_
                              refine sw_istore_n (lo' := [some (vr (49)), some (vf 2), some (vi (1)), some (vi (3))]) (dX9_isWord.at 38 rfl) rfl (by decide) rfl ?_
                              refine sw_iinc (lo' := [some (vr (49)), some (vf 2), some (vi (1)), some (vi (4))]) (dX9_isWord.at 39 rfl) rfl (by decide) rfl ?_
                              refine sw_goto (tgt := 32) (dX9_isWord.at 40 rfl) (by decide) ?_
                              refine sw_iload_n (dX9_isWord.at 18 rfl) rfl rfl ?_
                              refine sw_aload_nf (dX9_isWord.at 19 rfl) rfl rfl ?_
                              refine sw_callF (B' := B0) (i := 0) (As := []) (by decide) (dX9_isWord.at 20 rfl) lk_X9_141 rfl rfl (Nat.le_of_ble_eq_true rfl) rfl (Nat.le_refl _) (Nat.le_refl _) ?_
                              refine c_J0_length_2 (j := j + 2)  ?_
                              refine sw_icmp_ge (tgt := 75) (dX9_isWord.at 21 rfl) (by decide) (by decide) (by decide) (fun q => ?_) (fun q => ?_)
                              · exact absurd q (by decide)
                              · clear q
                                refine sw_iload_n (dX9_isWord.at 22 rfl) rfl rfl ?_
                                refine sw_if_eq (tgt := 75) (dX9_isWord.at 23 rfl) (by decide) (by decide) (fun q => ?_) (fun q => ?_)
                                · exact absurd q (by decide)
                                · clear q
                                  refine sw_aload_n (dX9_isWord.at 24 rfl) rfl rfl ?_
                                  refine sw_getR (dX9_isWord.at 25 rfl) fp_X9_7 (S_lt 49 (by decide)) (S_49 nw nx g) rfl rfl ?_
                                  refine sw_aload_n (dX9_isWord.at 26 rfl) rfl rfl ?_
                                  refine sw_getIE (w := ((rb : Nat) : Int)) (dX9_isWord.at 27 rfl) fp_X9_115 (S_lt 49 (by decide)) (S_49 nw nx g) rfl rfl ?_
                                  refine sw_iload_n (dX9_isWord.at 28 rfl) rfl rfl ?_
                                  refine sw_iadd (dX9_isWord.at 29 rfl) ?_
                                  refine sw_topI (y := ((rb + 4 : Nat) : Int)) (by first | rfl | (congr 1)) ?_
                                  refine sw_ialdN (rb + 4) (w := ((nb (rb + 4) : Nat) : Int)) (dX9_isWord.at 30 rfl) (S_lt 50 (by decide)) (S_50 nw nx g) (by decide) hv.1 (hT _ hv.1) ?_
                                  replace hv := hv.2
                                  refine sw_aload_nf (dX9_isWord.at 31 rfl) rfl rfl ?_
                                  refine sw_iload_n (dX9_isWord.at 32 rfl) rfl rfl ?_
                                  refine sw_callF (B' := B0) (i := 0) (As := [vi (4)]) (by decide) (dX9_isWord.at 33 rfl) lk_X9_147 rfl rfl (Nat.le_of_ble_eq_true rfl) rfl (Nat.le_refl _) (Nat.le_refl _) ?_
                                  refine c_J0_charAt_2_4 (j := j + 0)  ?_
                                  refine sw_icmpN_ne (nb (rb + 4)) 112 (tgt := 67) (dX9_isWord.at 34 rfl) (by decide) hv.1 (by decide) (fun q => ?_) (fun q => ?_)
                                  · replace hv := hv.2.1 q
                                    refine sw_iconst (dX9_isWord.at 37 rfl) ?_
                                    refine sw_istore_n (lo' := [some (vr (49)), some (vf 2), some (vi (0)), some (vi (4))]) (dX9_isWord.at 38 rfl) rfl (by decide) rfl ?_
                                    refine sw_iinc (lo' := [some (vr (49)), some (vf 2), some (vi (0)), some (vi (5))]) (dX9_isWord.at 39 rfl) rfl (by decide) rfl ?_
                                    refine sw_goto (tgt := 32) (dX9_isWord.at 40 rfl) (by decide) ?_
                                    refine sw_iload_n (dX9_isWord.at 18 rfl) rfl rfl ?_
                                    refine sw_aload_nf (dX9_isWord.at 19 rfl) rfl rfl ?_
                                    refine sw_callF (B' := B0) (i := 0) (As := []) (by decide) (dX9_isWord.at 20 rfl) lk_X9_141 rfl rfl (Nat.le_of_ble_eq_true rfl) rfl (Nat.le_refl _) (Nat.le_refl _) ?_
                                    refine c_J0_length_2 (j := j + 2)  ?_
                                    refine sw_icmp_ge (tgt := 75) (dX9_isWord.at 21 rfl) (by decide) (by decide) (by decide) (fun q => ?_) (fun q => ?_)
                                    · clear q
                                      refine sw_iload_n (dX9_isWord.at 41 rfl) rfl rfl ?_
                                      exact sw_zret (dX9_isWord.at 42 rfl) rfl (by decide) (Nat.le_refl _) (Nat.le_refl _) hv
                                    · exact absurd q (by decide)
                                  · replace hv := hv.2.2 q
                                    refine sw_iconst (dX9_isWord.at 35 rfl) ?_
                                    refine sw_goto (tgt := 68) (dX9_isWord.at 36 rfl) (by decide) ?_
                                    refine sw_istore_n (lo' := [some (vr (49)), some (vf 2), some (vi (1)), some (vi (4))]) (dX9_isWord.at 38 rfl) rfl (by decide) rfl ?_
                                    refine sw_iinc (lo' := [some (vr (49)), some (vf 2), some (vi (1)), some (vi (5))]) (dX9_isWord.at 39 rfl) rfl (by decide) rfl ?_
                                    refine sw_goto (tgt := 32) (dX9_isWord.at 40 rfl) (by decide) ?_
                                    refine sw_iload_n (dX9_isWord.at 18 rfl) rfl rfl ?_
                                    refine sw_aload_nf (dX9_isWord.at 19 rfl) rfl rfl ?_
                                    refine sw_callF (B' := B0) (i := 0) (As := []) (by decide) (dX9_isWord.at 20 rfl) lk_X9_141 rfl rfl (Nat.le_of_ble_eq_true rfl) rfl (Nat.le_refl _) (Nat.le_refl _) ?_
                                    refine c_J0_length_2 (j := j + 2)  ?_
                                    refine sw_icmp_ge (tgt := 75) (dX9_isWord.at 21 rfl) (by decide) (by decide) (by decide) (fun q => ?_) (fun q => ?_)
                                    · clear q
                                      refine sw_iload_n (dX9_isWord.at 41 rfl) rfl rfl ?_
                                      exact sw_zret (dX9_isWord.at 42 rfl) rfl (by decide) (Nat.le_refl _) (Nat.le_refl _) hv
                                    · exact absurd q (by decide)

set_option maxHeartbeats 4000000 in
theorem c_X9_isWord_2 {G : GG} {j nw nx gn : Nat} {g : Nat → Sh} {c : Nat → Nat → Int} {post : Option AV → AM → Prop} {nb : Nat → Nat} {n : Nat} {ra : Nat} {rb : Nat} {rt : Nat} {rv : Nat} {rz : Bool} {fk : Nat} {fp : Int} {rk : Nat} {ln : Nat} {bo : Nat → Nat} (hS : c 49 1 = ((n : Nat) : Int)) (hn : n ≤ 300) (hB : ∀ i, nb i < 256) (hT : ∀ i, i < 300 → c 50 i = ((nb i : Nat) : Int)) (p1 : rb ≤ ra) (p2 : ra ≤ n) (p3 : rt < 5) (K : post (some (vi (bz (wdG nb rt rb ra)))) (S nw nx g, 78 + gn, (rm c ra rb rt rv rz fk fp rk ln bo))) : SM G (j + 5) mX9_isWord [vr (49), vf 2] (S nw nx g, 78 + gn, (rm c ra rb rt rv rz fk fp rk ln bo)) 0 0 post := by
  refine sm_of wX9_isWord rfl (Nat.le_of_ble_eq_true rfl) ?_
  have r := hB
  have r0 := hB (rb + 0)
  have K1 : ∀ v : Int, v = bz (wdG nb rt rb ra) → post (some (vi v)) (S nw nx g, 78 + gn, (rm c ra rb rt rv rz fk fp rk ln bo)) := fun v h => h ▸ K
  refine g_X9_isWord_2 hS hn hB hT ?_
  refine ⟨?_, ⟨fun q => ?_, fun q => ⟨?_, ⟨?_, ⟨fun q => ?_, fun q => ⟨?_, ⟨?_, ⟨fun q => ?_, fun q => ⟨?_, ⟨?_, ⟨fun q => ?_, fun q => ⟨?_, ⟨?_, ⟨fun q => ?_, fun q => ⟨?_, ⟨?_, ⟨fun q => ?_, fun q => ⟨?_, ⟨?_, ⟨fun q => ?_, fun q => ?_⟩⟩⟩⟩⟩⟩⟩⟩⟩⟩⟩⟩⟩⟩⟩⟩⟩⟩⟩⟩
  all_goals first | omega | (have := r (rb + 0); omega) | (have := r (rb + 1); omega) | (have := r (rb + 2); omega) | (have := r (rb + 3); omega) | (have := r (rb + 4); omega) | (refine K1 _ ?_; simp only [Nat.add_zero] at *; unfold wdG bz; split <;> rename_i hh <;> simp only [decide_eq_true_eq] at hh <;> first | rfl | (exfalso; omega))

set_option maxHeartbeats 2000000 in
set_option maxRecDepth 20000 in
theorem g_X9_isWord_3 {G : GG} {j nw nx gn : Nat} {g : Nat → Sh} {c : Nat → Nat → Int} {post : Option AV → AM → Prop} {nb : Nat → Nat} {n : Nat} {ra : Nat} {rb : Nat} {rt : Nat} {rv : Nat} {rz : Bool} {fk : Nat} {fp : Int} {rk : Nat} {ln : Nat} {bo : Nat → Nat} (hS : c 49 1 = ((n : Nat) : Int)) (hn : n ≤ 300) (hB : ∀ i, nb i < 256) (hT : ∀ i, i < 300 → c 50 i = ((nb i : Nat) : Int))  (hv : (rt < 2147483648) ∧ (((rt ≠ 1) → post (some (vi (0))) (S nw nx g, 78 + gn, (rm c ra rb rt rv rz fk fp rk ln bo))) ∧ ((rt = 1) → (rb ≤ ra) ∧ ((ra - rb < 2147483648) ∧ (((ra - rb ≠ 4) → post (some (vi (0))) (S nw nx g, 78 + gn, (rm c ra rb rt rv rz fk fp rk ln bo))) ∧ ((ra - rb = 4) → (rb + 0 < 300) ∧ ((nb (rb + 0) < 2147483648) ∧ (((nb (rb + 0) ≠ 98) → post (some (vi (0))) (S nw nx g, 78 + gn, (rm c ra rb rt rv rz fk fp rk ln bo))) ∧ ((nb (rb + 0) = 98) → (rb + 1 < 300) ∧ ((nb (rb + 1) < 2147483648) ∧ (((nb (rb + 1) ≠ 111) → post (some (vi (0))) (S nw nx g, 78 + gn, (rm c ra rb rt rv rz fk fp rk ln bo))) ∧ ((nb (rb + 1) = 111) → (rb + 2 < 300) ∧ ((nb (rb + 2) < 2147483648) ∧ (((nb (rb + 2) ≠ 110) → post (some (vi (0))) (S nw nx g, 78 + gn, (rm c ra rb rt rv rz fk fp rk ln bo))) ∧ ((nb (rb + 2) = 110) → (rb + 3 < 300) ∧ ((nb (rb + 3) < 2147483648) ∧ (((nb (rb + 3) ≠ 100) → post (some (vi (0))) (S nw nx g, 78 + gn, (rm c ra rb rt rv rz fk fp rk ln bo))) ∧ ((nb (rb + 3) = 100) → post (some (vi (1))) (S nw nx g, 78 + gn, (rm c ra rb rt rv rz fk fp rk ln bo)))))))))))))))))))) :
    SW G (j + 4) mX9_isWord 0 [some (vr (49)), some (vf 3), none, none] [] (S nw nx g, 78 + gn, (rm c ra rb rt rv rz fk fp rk ln bo)) B0 post := by
  refine sw_aload_n (dX9_isWord.at 0 rfl) rfl rfl ?_
  refine sw_getIE (w := ((rt : Nat) : Int)) (dX9_isWord.at 1 rfl) fp_X9_121 (S_lt 49 (by decide)) (S_49 nw nx g) rfl rfl ?_
  refine sw_iconst (dX9_isWord.at 2 rfl) ?_
  refine sw_icmpN_ne rt 1 (tgt := 28) (dX9_isWord.at 3 rfl) (by decide) hv.1 (by decide) (fun q => ?_) (fun q => ?_)
  · replace hv := hv.2.1 q
    refine sw_iconst (dX9_isWord.at 14 rfl) ?_
    refine sw_istore_n (lo' := [some (vr (49)), some (vf 3), some (vi (0)), none]) (dX9_isWord.at 15 rfl) rfl (by decide) rfl ?_
    refine sw_iconst (dX9_isWord.at 16 rfl) ?_
    refine sw_istore_n (lo' := [some (vr (49)), some (vf 3), some (vi (0)), some (vi (0))]) (dX9_isWord.at 17 rfl) rfl (by decide) rfl ?_
    refine sw_iload_n (dX9_isWord.at 18 rfl) rfl rfl ?_
    refine sw_aload_nf (dX9_isWord.at 19 rfl) rfl rfl ?_
    refine sw_callF (B' := B0) (i := 1) (As := []) (by decide) (dX9_isWord.at 20 rfl) lk_X9_141 rfl rfl (Nat.le_of_ble_eq_true rfl) rfl (Nat.le_refl _) (Nat.le_refl _) ?_
    refine c_J0_length_3 (j := j + 2)  ?_
    refine sw_icmp_ge (tgt := 75) (dX9_isWord.at 21 rfl) (by decide) (by decide) (by decide) (fun q => ?_) (fun q => ?_)
    · exact absurd q (by decide)
    · clear q
      refine sw_iload_n (dX9_isWord.at 22 rfl) rfl rfl ?_
      refine sw_if_eq (tgt := 75) (dX9_isWord.at 23 rfl) (by decide) (by decide) (fun q => ?_) (fun q => ?_)
      · clear q
        refine sw_iload_n (dX9_isWord.at 41 rfl) rfl rfl ?_
        exact sw_zret (dX9_isWord.at 42 rfl) rfl (by decide) (Nat.le_refl _) (Nat.le_refl _) hv
      · exact absurd q (by decide)
  · replace hv := hv.2.2 q
    refine sw_aload_n (dX9_isWord.at 4 rfl) rfl rfl ?_
    refine sw_getIE (w := ((ra : Nat) : Int)) (dX9_isWord.at 5 rfl) fp_X9_108 (S_lt 49 (by decide)) (S_49 nw nx g) rfl rfl ?_
    refine sw_aload_n (dX9_isWord.at 6 rfl) rfl rfl ?_
    refine sw_getIE (w := ((rb : Nat) : Int)) (dX9_isWord.at 7 rfl) fp_X9_115 (S_lt 49 (by decide)) (S_49 nw nx g) rfl rfl ?_
    refine sw_isub (dX9_isWord.at 8 rfl) ?_
    refine sw_topI (y := ((ra - rb : Nat) : Int)) (congrArg _ (Int.ofNat_sub hv.1).symm) ?_
    replace hv := hv.2
    refine sw_aload_nf (dX9_isWord.at 9 rfl) rfl rfl ?_
    refine sw_callF (B' := B0) (i := 1) (As := []) (by decide) (dX9_isWord.at 10 rfl) lk_X9_141 rfl rfl (Nat.le_of_ble_eq_true rfl) rfl (Nat.le_refl _) (Nat.le_refl _) ?_
    refine c_J0_length_3 (j := j + 2)  ?_
    refine sw_icmpN_ne (ra - rb) 4 (tgt := 28) (dX9_isWord.at 11 rfl) (by decide) hv.1 (by decide) (fun q => ?_) (fun q => ?_)
    · replace hv := hv.2.1 q
      refine sw_iconst (dX9_isWord.at 14 rfl) ?_
      refine sw_istore_n (lo' := [some (vr (49)), some (vf 3), some (vi (0)), none]) (dX9_isWord.at 15 rfl) rfl (by decide) rfl ?_
      refine sw_iconst (dX9_isWord.at 16 rfl) ?_
      refine sw_istore_n (lo' := [some (vr (49)), some (vf 3), some (vi (0)), some (vi (0))]) (dX9_isWord.at 17 rfl) rfl (by decide) rfl ?_
      refine sw_iload_n (dX9_isWord.at 18 rfl) rfl rfl ?_
      refine sw_aload_nf (dX9_isWord.at 19 rfl) rfl rfl ?_
      refine sw_callF (B' := B0) (i := 1) (As := []) (by decide) (dX9_isWord.at 20 rfl) lk_X9_141 rfl rfl (Nat.le_of_ble_eq_true rfl) rfl (Nat.le_refl _) (Nat.le_refl _) ?_
      refine c_J0_length_3 (j := j + 2)  ?_
      refine sw_icmp_ge (tgt := 75) (dX9_isWord.at 21 rfl) (by decide) (by decide) (by decide) (fun q => ?_) (fun q => ?_)
      · exact absurd q (by decide)
      · clear q
        refine sw_iload_n (dX9_isWord.at 22 rfl) rfl rfl ?_
        refine sw_if_eq (tgt := 75) (dX9_isWord.at 23 rfl) (by decide) (by decide) (fun q => ?_) (fun q => ?_)
        · clear q
          refine sw_iload_n (dX9_isWord.at 41 rfl) rfl rfl ?_
          exact sw_zret (dX9_isWord.at 42 rfl) rfl (by decide) (Nat.le_refl _) (Nat.le_refl _) hv
        · exact absurd q (by decide)
    · replace hv := hv.2.2 q
      refine sw_iconst (dX9_isWord.at 12 rfl) ?_
      refine sw_goto (tgt := 29) (dX9_isWord.at 13 rfl) (by decide) ?_
      refine sw_istore_n (lo' := [some (vr (49)), some (vf 3), some (vi (1)), none]) (dX9_isWord.at 15 rfl) rfl (by decide) rfl ?_
      refine sw_iconst (dX9_isWord.at 16 rfl) ?_
      refine sw_istore_n (lo' := [some (vr (49)), some (vf 3), some (vi (1)), some (vi (0))]) (dX9_isWord.at 17 rfl) rfl (by decide) rfl ?_
      refine sw_iload_n (dX9_isWord.at 18 rfl) rfl rfl ?_
      refine sw_aload_nf (dX9_isWord.at 19 rfl) rfl rfl ?_
      refine sw_callF (B' := B0) (i := 1) (As := []) (by decide) (dX9_isWord.at 20 rfl) lk_X9_141 rfl rfl (Nat.le_of_ble_eq_true rfl) rfl (Nat.le_refl _) (Nat.le_refl _) ?_
      refine c_J0_length_3 (j := j + 2)  ?_
      refine sw_icmp_ge (tgt := 75) (dX9_isWord.at 21 rfl) (by decide) (by decide) (by decide) (fun q => ?_) (fun q => ?_)
      · exact absurd q (by decide)
      · clear q
        refine sw_iload_n (dX9_isWord.at 22 rfl) rfl rfl ?_
        refine sw_if_eq (tgt := 75) (dX9_isWord.at 23 rfl) (by decide) (by decide) (fun q => ?_) (fun q => ?_)
        · exact absurd q (by decide)
        · clear q
          refine sw_aload_n (dX9_isWord.at 24 rfl) rfl rfl ?_
          refine sw_getR (dX9_isWord.at 25 rfl) fp_X9_7 (S_lt 49 (by decide)) (S_49 nw nx g) rfl rfl ?_
          refine sw_aload_n (dX9_isWord.at 26 rfl) rfl rfl ?_
          refine sw_getIE (w := ((rb : Nat) : Int)) (dX9_isWord.at 27 rfl) fp_X9_115 (S_lt 49 (by decide)) (S_49 nw nx g) rfl rfl ?_
          refine sw_iload_n (dX9_isWord.at 28 rfl) rfl rfl ?_
          refine sw_iadd (dX9_isWord.at 29 rfl) ?_
          refine sw_topI (y := ((rb + 0 : Nat) : Int)) (by first | rfl | (congr 1)) ?_
          refine sw_ialdN (rb + 0) (w := ((nb (rb + 0) : Nat) : Int)) (dX9_isWord.at 30 rfl) (S_lt 50 (by decide)) (S_50 nw nx g) (by decide) hv.1 (hT _ hv.1) ?_
          replace hv := hv.2
          refine sw_aload_nf (dX9_isWord.at 31 rfl) rfl rfl ?_
          refine sw_iload_n (dX9_isWord.at 32 rfl) rfl rfl ?_
          refine sw_callF (B' := B0) (i := 1) (As := [vi (0)]) (by decide) (dX9_isWord.at 33 rfl) lk_X9_147 rfl rfl (Nat.le_of_ble_eq_true rfl) rfl (Nat.le_refl _) (Nat.le_refl _) ?_
          refine c_J0_charAt_3_0 (j := j + 0)  ?_
          refine sw_icmpN_ne (nb (rb + 0)) 98 (tgt := 67) (dX9_isWord.at 34 rfl) (by decide) hv.1 (by decide) (fun q => ?_) (fun q => ?_)
          · replace hv := hv.2.1 q
            refine sw_iconst (dX9_isWord.at 37 rfl) ?_
            refine sw_istore_n (lo' := [some (vr (49)), some (vf 3), some (vi (0)), some (vi (0))]) (dX9_isWord.at 38 rfl) rfl (by decide) rfl ?_
            refine sw_iinc (lo' := [some (vr (49)), some (vf 3), some (vi (0)), some (vi (1))]) (dX9_isWord.at 39 rfl) rfl (by decide) rfl ?_
            refine sw_goto (tgt := 32) (dX9_isWord.at 40 rfl) (by decide) ?_
            refine sw_iload_n (dX9_isWord.at 18 rfl) rfl rfl ?_
            refine sw_aload_nf (dX9_isWord.at 19 rfl) rfl rfl ?_
            refine sw_callF (B' := B0) (i := 1) (As := []) (by decide) (dX9_isWord.at 20 rfl) lk_X9_141 rfl rfl (Nat.le_of_ble_eq_true rfl) rfl (Nat.le_refl _) (Nat.le_refl _) ?_
            refine c_J0_length_3 (j := j + 2)  ?_
            refine sw_icmp_ge (tgt := 75) (dX9_isWord.at 21 rfl) (by decide) (by decide) (by decide) (fun q => ?_) (fun q => ?_)
            · exact absurd q (by decide)
            · clear q
              refine sw_iload_n (dX9_isWord.at 22 rfl) rfl rfl ?_
              refine sw_if_eq (tgt := 75) (dX9_isWord.at 23 rfl) (by decide) (by decide) (fun q => ?_) (fun q => ?_)
              · clear q
                refine sw_iload_n (dX9_isWord.at 41 rfl) rfl rfl ?_
                exact sw_zret (dX9_isWord.at 42 rfl) rfl (by decide) (Nat.le_refl _) (Nat.le_refl _) hv
              · exact absurd q (by decide)
          · replace hv := hv.2.2 q
            refine sw_iconst (dX9_isWord.at 35 rfl) ?_
            refine sw_goto (tgt := 68) (dX9_isWord.at 36 rfl) (by decide) ?_
            refine sw_istore_n (lo' := [some (vr (49)), some (vf 3), some (vi (1)), some (vi (0))]) (dX9_isWord.at 38 rfl) rfl (by decide) rfl ?_
            refine sw_iinc (lo' := [some (vr (49)), some (vf 3), some (vi (1)), some (vi (1))]) (dX9_isWord.at 39 rfl) rfl (by decide) rfl ?_
            refine sw_goto (tgt := 32) (dX9_isWord.at 40 rfl) (by decide) ?_
            refine sw_iload_n (dX9_isWord.at 18 rfl) rfl rfl ?_
            refine sw_aload_nf (dX9_isWord.at 19 rfl) rfl rfl ?_
            refine sw_callF (B' := B0) (i := 1) (As := []) (by decide) (dX9_isWord.at 20 rfl) lk_X9_141 rfl rfl (Nat.le_of_ble_eq_true rfl) rfl (Nat.le_refl _) (Nat.le_refl _) ?_
            refine c_J0_length_3 (j := j + 2)  ?_
            refine sw_icmp_ge (tgt := 75) (dX9_isWord.at 21 rfl) (by decide) (by decide) (by decide) (fun q => ?_) (fun q => ?_)
            · exact absurd q (by decide)
            · clear q
              refine sw_iload_n (dX9_isWord.at 22 rfl) rfl rfl ?_
              refine sw_if_eq (tgt := 75) (dX9_isWord.at 23 rfl) (by decide) (by decide) (fun q => ?_) (fun q => ?_)
              · exact absurd q (by decide)
              · clear q
                refine sw_aload_n (dX9_isWord.at 24 rfl) rfl rfl ?_
                refine sw_getR (dX9_isWord.at 25 rfl) fp_X9_7 (S_lt 49 (by decide)) (S_49 nw nx g) rfl rfl ?_
                refine sw_aload_n (dX9_isWord.at 26 rfl) rfl rfl ?_
                refine sw_getIE (w := ((rb : Nat) : Int)) (dX9_isWord.at 27 rfl) fp_X9_115 (S_lt 49 (by decide)) (S_49 nw nx g) rfl rfl ?_
                refine sw_iload_n (dX9_isWord.at 28 rfl) rfl rfl ?_
                refine sw_iadd (dX9_isWord.at 29 rfl) ?_
                refine sw_topI (y := ((rb + 1 : Nat) : Int)) (by first | rfl | (congr 1)) ?_
                refine sw_ialdN (rb + 1) (w := ((nb (rb + 1) : Nat) : Int)) (dX9_isWord.at 30 rfl) (S_lt 50 (by decide)) (S_50 nw nx g) (by decide) hv.1 (hT _ hv.1) ?_
                replace hv := hv.2
                refine sw_aload_nf (dX9_isWord.at 31 rfl) rfl rfl ?_
                refine sw_iload_n (dX9_isWord.at 32 rfl) rfl rfl ?_
                refine sw_callF (B' := B0) (i := 1) (As := [vi (1)]) (by decide) (dX9_isWord.at 33 rfl) lk_X9_147 rfl rfl (Nat.le_of_ble_eq_true rfl) rfl (Nat.le_refl _) (Nat.le_refl _) ?_
                refine c_J0_charAt_3_1 (j := j + 0)  ?_
                refine sw_icmpN_ne (nb (rb + 1)) 111 (tgt := 67) (dX9_isWord.at 34 rfl) (by decide) hv.1 (by decide) (fun q => ?_) (fun q => ?_)
                · replace hv := hv.2.1 q
                  refine sw_iconst (dX9_isWord.at 37 rfl) ?_
                  refine sw_istore_n (lo' := [some (vr (49)), some (vf 3), some (vi (0)), some (vi (1))]) (dX9_isWord.at 38 rfl) rfl (by decide) rfl ?_
                  refine sw_iinc (lo' := [some (vr (49)), some (vf 3), some (vi (0)), some (vi (2))]) (dX9_isWord.at 39 rfl) rfl (by decide) rfl ?_
                  refine sw_goto (tgt := 32) (dX9_isWord.at 40 rfl) (by decide) ?_
                  refine sw_iload_n (dX9_isWord.at 18 rfl) rfl rfl ?_
                  refine sw_aload_nf (dX9_isWord.at 19 rfl) rfl rfl ?_
                  refine sw_callF (B' := B0) (i := 1) (As := []) (by decide) (dX9_isWord.at 20 rfl) lk_X9_141 rfl rfl (Nat.le_of_ble_eq_true rfl) rfl (Nat.le_refl _) (Nat.le_refl _) ?_
                  refine c_J0_length_3 (j := j + 2)  ?_
                  refine sw_icmp_ge (tgt := 75) (dX9_isWord.at 21 rfl) (by decide) (by decide) (by decide) (fun q => ?_) (fun q => ?_)
                  · exact absurd q (by decide)
                  · clear q
                    refine sw_iload_n (dX9_isWord.at 22 rfl) rfl rfl ?_
                    refine sw_if_eq (tgt := 75) (dX9_isWord.at 23 rfl) (by decide) (by decide) (fun q => ?_) (fun q => ?_)
                    · clear q
                      refine sw_iload_n (dX9_isWord.at 41 rfl) rfl rfl ?_
                      exact sw_zret (dX9_isWord.at 42 rfl) rfl (by decide) (Nat.le_refl _) (Nat.le_refl _) hv
                    · exact absurd q (by decide)
                · replace hv := hv.2.2 q
                  refine sw_iconst (dX9_isWord.at 35 rfl) ?_
                  refine sw_goto (tgt := 68) (dX9_isWord.at 36 rfl) (by decide) ?_
                  refine sw_istore_n (lo' := [some (vr (49)), some (vf 3), some (vi (1)), some (vi (1))]) (dX9_isWord.at 38 rfl) rfl (by decide) rfl ?_
                  refine sw_iinc (lo' := [some (vr (49)), some (vf 3), some (vi (1)), some (vi (2))]) (dX9_isWord.at 39 rfl) rfl (by decide) rfl ?_
                  refine sw_goto (tgt := 32) (dX9_isWord.at 40 rfl) (by decide) ?_
                  refine sw_iload_n (dX9_isWord.at 18 rfl) rfl rfl ?_
                  refine sw_aload_nf (dX9_isWord.at 19 rfl) rfl rfl ?_
                  refine sw_callF (B' := B0) (i := 1) (As := []) (by decide) (dX9_isWord.at 20 rfl) lk_X9_141 rfl rfl (Nat.le_of_ble_eq_true rfl) rfl (Nat.le_refl _) (Nat.le_refl _) ?_
                  refine c_J0_length_3 (j := j + 2)  ?_
                  refine sw_icmp_ge (tgt := 75) (dX9_isWord.at 21 rfl) (by decide) (by decide) (by decide) (fun q => ?_) (fun q => ?_)
                  · exact absurd q (by decide)
                  · clear q
                    refine sw_iload_n (dX9_isWord.at 22 rfl) rfl rfl ?_
                    refine sw_if_eq (tgt := 75) (dX9_isWord.at 23 rfl) (by decide) (by decide) (fun q => ?_) (fun q => ?_)
                    · exact absurd q (by decide)
                    · clear q
                      refine sw_aload_n (dX9_isWord.at 24 rfl) rfl rfl ?_
                      refine sw_getR (dX9_isWord.at 25 rfl) fp_X9_7 (S_lt 49 (by decide)) (S_49 nw nx g) rfl rfl ?_
                      refine sw_aload_n (dX9_isWord.at 26 rfl) rfl rfl ?_
                      refine sw_getIE (w := ((rb : Nat) : Int)) (dX9_isWord.at 27 rfl) fp_X9_115 (S_lt 49 (by decide)) (S_49 nw nx g) rfl rfl ?_
                      refine sw_iload_n (dX9_isWord.at 28 rfl) rfl rfl ?_
                      refine sw_iadd (dX9_isWord.at 29 rfl) ?_
                      refine sw_topI (y := ((rb + 2 : Nat) : Int)) (by first | rfl | (congr 1)) ?_
                      refine sw_ialdN (rb + 2) (w := ((nb (rb + 2) : Nat) : Int)) (dX9_isWord.at 30 rfl) (S_lt 50 (by decide)) (S_50 nw nx g) (by decide) hv.1 (hT _ hv.1) ?_
                      replace hv := hv.2
                      refine sw_aload_nf (dX9_isWord.at 31 rfl) rfl rfl ?_
                      refine sw_iload_n (dX9_isWord.at 32 rfl) rfl rfl ?_
                      refine sw_callF (B' := B0) (i := 1) (As := [vi (2)]) (by decide) (dX9_isWord.at 33 rfl) lk_X9_147 rfl rfl (Nat.le_of_ble_eq_true rfl) rfl (Nat.le_refl _) (Nat.le_refl _) ?_
                      refine c_J0_charAt_3_2 (j := j + 0)  ?_
                      refine sw_icmpN_ne (nb (rb + 2)) 110 (tgt := 67) (dX9_isWord.at 34 rfl) (by decide) hv.1 (by decide) (fun q => ?_) (fun q => ?_)
                      · replace hv := hv.2.1 q
                        refine sw_iconst (dX9_isWord.at 37 rfl) ?_
                        refine sw_istore_n (lo' := [some (vr (49)), some (vf 3), some (vi (0)), some (vi (2))]) (dX9_isWord.at 38 rfl) rfl (by decide) rfl ?_
                        refine sw_iinc (lo' := [some (vr (49)), some (vf 3), some (vi (0)), some (vi (3))]) (dX9_isWord.at 39 rfl) rfl (by decide) rfl ?_
                        refine sw_goto (tgt := 32) (dX9_isWord.at 40 rfl) (by decide) ?_
                        refine sw_iload_n (dX9_isWord.at 18 rfl) rfl rfl ?_
                        refine sw_aload_nf (dX9_isWord.at 19 rfl) rfl rfl ?_
                        refine sw_callF (B' := B0) (i := 1) (As := []) (by decide) (dX9_isWord.at 20 rfl) lk_X9_141 rfl rfl (Nat.le_of_ble_eq_true rfl) rfl (Nat.le_refl _) (Nat.le_refl _) ?_
                        refine c_J0_length_3 (j := j + 2)  ?_
                        refine sw_icmp_ge (tgt := 75) (dX9_isWord.at 21 rfl) (by decide) (by decide) (by decide) (fun q => ?_) (fun q => ?_)
                        · exact absurd q (by decide)
                        · clear q
                          refine sw_iload_n (dX9_isWord.at 22 rfl) rfl rfl ?_
                          refine sw_if_eq (tgt := 75) (dX9_isWord.at 23 rfl) (by decide) (by decide) (fun q => ?_) (fun q => ?_)
                          · clear q
                            refine sw_iload_n (dX9_isWord.at 41 rfl) rfl rfl ?_
                            exact sw_zret (dX9_isWord.at 42 rfl) rfl (by decide) (Nat.le_refl _) (Nat.le_refl _) hv
                          · exact absurd q (by decide)
                      · replace hv := hv.2.2 q
                        refine sw_iconst (dX9_isWord.at 35 rfl) ?_
                        refine sw_goto (tgt := 68) (dX9_isWord.at 36 rfl) (by decide) ?_
                        refine sw_istore_n (lo' := [some (vr (49)), some (vf 3), some (vi (1)), some (vi (2))]) (dX9_isWord.at 38 rfl) rfl (by decide) rfl ?_
                        refine sw_iinc (lo' := [some (vr (49)), some (vf 3), some (vi (1)), some (vi (3))]) (dX9_isWord.at 39 rfl) rfl (by decide) rfl ?_
                        refine sw_goto (tgt := 32) (dX9_isWord.at 40 rfl) (by decide) ?_
                        refine sw_iload_n (dX9_isWord.at 18 rfl) rfl rfl ?_
                        refine sw_aload_nf (dX9_isWord.at 19 rfl) rfl rfl ?_
                        refine sw_callF (B' := B0) (i := 1) (As := []) (by decide) (dX9_isWord.at 20 rfl) lk_X9_141 rfl rfl (Nat.le_of_ble_eq_true rfl) rfl (Nat.le_refl _) (Nat.le_refl _) ?_
                        refine c_J0_length_3 (j := j + 2)  ?_
                        refine sw_icmp_ge (tgt := 75) (dX9_isWord.at 21 rfl) (by decide) (by decide) (by decide) (fun q => ?_) (fun q => ?_)
                        · exact absurd q (by decide)
                        · clear q
                          refine sw_iload_n (dX9_isWord.at 22 rfl) rfl rfl ?_
                          refine sw_if_eq (tgt := 75) (dX9_isWord.at 23 rfl) (by decide) (by decide) (fun q => ?_) (fun q => ?_)
                          · exact absurd q (by decide)
                          · clear q
                            refine sw_aload_n (dX9_isWord.at 24 rfl) rfl rfl ?_
                            refine sw_getR (dX9_isWord.at 25 rfl) fp_X9_7 (S_lt 49 (by decide)) (S_49 nw nx g) rfl rfl ?_
                            refine sw_aload_n (dX9_isWord.at 26 rfl) rfl rfl ?_
                            refine sw_getIE (w := ((rb : Nat) : Int)) (dX9_isWord.at 27 rfl) fp_X9_115 (S_lt 49 (by decide)) (S_49 nw nx g) rfl rfl ?_
                            refine sw_iload_n (dX9_isWord.at 28 rfl) rfl rfl ?_
                            refine sw_iadd (dX9_isWord.at 29 rfl) ?_
                            refine sw_topI (y := ((rb + 3 : Nat) : Int)) (by first | rfl | (congr 1)) ?_
                            refine sw_ialdN (rb + 3) (w := ((nb (rb + 3) : Nat) : Int)) (dX9_isWord.at 30 rfl) (S_lt 50 (by decide)) (S_50 nw nx g) (by decide) hv.1 (hT _ hv.1) ?_
                            replace hv := hv.2
                            refine sw_aload_nf (dX9_isWord.at 31 rfl) rfl rfl ?_
                            refine sw_iload_n (dX9_isWord.at 32 rfl) rfl rfl ?_
                            refine sw_callF (B' := B0) (i := 1) (As := [vi (3)]) (by decide) (dX9_isWord.at 33 rfl) lk_X9_147 rfl rfl (Nat.le_of_ble_eq_true rfl) rfl (Nat.le_refl _) (Nat.le_refl _) ?_
                            refine c_J0_charAt_3_3 (j := j + 0)  ?_
                            refine sw_icmpN_ne (nb (rb + 3)) 100 (tgt := 67) (dX9_isWord.at 34 rfl) (by decide) hv.1 (by decide) (fun q => ?_) (fun q => ?_)
                            · replace hv := hv.2.1 q
                              refine sw_iconst (dX9_isWord.at 37 rfl) ?_
                              refine sw_istore_n (lo' := [some (vr (49)), some (vf 3), some (vi (0)), some (vi (3))]) (dX9_isWord.at 38 rfl) rfl (by decide) rfl ?_
                              refine sw_iinc (lo' := [some (vr (49)), some (vf 3), some (vi (0)), some (vi (4))]) (dX9_isWord.at 39 rfl) rfl (by decide) rfl ?_
                              refine sw_goto (tgt := 32) (dX9_isWord.at 40 rfl) (by decide) ?_
                              refine sw_iload_n (dX9_isWord.at 18 rfl) rfl rfl ?_
                              refine sw_aload_nf (dX9_isWord.at 19 rfl) rfl rfl ?_
                              refine sw_callF (B' := B0) (i := 1) (As := []) (by decide) (dX9_isWord.at 20 rfl) lk_X9_141 rfl rfl (Nat.le_of_ble_eq_true rfl) rfl (Nat.le_refl _) (Nat.le_refl _) ?_
                              refine c_J0_length_3 (j := j + 2)  ?_
                              refine sw_icmp_ge (tgt := 75) (dX9_isWord.at 21 rfl) (by decide) (by decide) (by decide) (fun q => ?_) (fun q => ?_)
                              · clear q
                                refine sw_iload_n (dX9_isWord.at 41 rfl) rfl rfl ?_
                                exact sw_zret (dX9_isWord.at 42 rfl) rfl (by decide) (Nat.le_refl _) (Nat.le_refl _) hv
                              · exact absurd q (by decide)
                            · replace hv := hv.2.2 q
                              refine sw_iconst (dX9_isWord.at 35 rfl) ?_
                              refine sw_goto (tgt := 68) (dX9_isWord.at 36 rfl) (by decide) ?_
                              refine sw_istore_n (lo' := [some (vr (49)), some (vf 3), some (vi (1)), some (vi (3))]) (dX9_isWord.at 38 rfl) rfl (by decide) rfl ?_
                              refine sw_iinc (lo' := [some (vr (49)), some (vf 3), some (vi (1)), some (vi (4))]) (dX9_isWord.at 39 rfl) rfl (by decide) rfl ?_
                              refine sw_goto (tgt := 32) (dX9_isWord.at 40 rfl) (by decide) ?_
                              refine sw_iload_n (dX9_isWord.at 18 rfl) rfl rfl ?_
                              refine sw_aload_nf (dX9_isWord.at 19 rfl) rfl rfl ?_
                              refine sw_callF (B' := B0) (i := 1) (As := []) (by decide) (dX9_isWord.at 20 rfl) lk_X9_141 rfl rfl (Nat.le_of_ble_eq_true rfl) rfl (Nat.le_refl _) (Nat.le_refl _) ?_
                              refine c_J0_length_3 (j := j + 2)  ?_
                              refine sw_icmp_ge (tgt := 75) (dX9_isWord.at 21 rfl) (by decide) (by decide) (by decide) (fun q => ?_) (fun q => ?_)
                              · clear q
                                refine sw_iload_n (dX9_isWord.at 41 rfl) rfl rfl ?_
                                exact sw_zret (dX9_isWord.at 42 rfl) rfl (by decide) (Nat.le_refl _) (Nat.le_refl _) hv
                              · exact absurd q (by decide)

set_option maxHeartbeats 4000000 in
theorem c_X9_isWord_3 {G : GG} {j nw nx gn : Nat} {g : Nat → Sh} {c : Nat → Nat → Int} {post : Option AV → AM → Prop} {nb : Nat → Nat} {n : Nat} {ra : Nat} {rb : Nat} {rt : Nat} {rv : Nat} {rz : Bool} {fk : Nat} {fp : Int} {rk : Nat} {ln : Nat} {bo : Nat → Nat} (hS : c 49 1 = ((n : Nat) : Int)) (hn : n ≤ 300) (hB : ∀ i, nb i < 256) (hT : ∀ i, i < 300 → c 50 i = ((nb i : Nat) : Int)) (p1 : rb ≤ ra) (p2 : ra ≤ n) (p3 : rt < 5) (K : post (some (vi (bz (wdB nb rt rb ra)))) (S nw nx g, 78 + gn, (rm c ra rb rt rv rz fk fp rk ln bo))) : SM G (j + 5) mX9_isWord [vr (49), vf 3] (S nw nx g, 78 + gn, (rm c ra rb rt rv rz fk fp rk ln bo)) 0 0 post := by
  refine sm_of wX9_isWord rfl (Nat.le_of_ble_eq_true rfl) ?_
  have r := hB
  have r0 := hB (rb + 0)
  have K1 : ∀ v : Int, v = bz (wdB nb rt rb ra) → post (some (vi v)) (S nw nx g, 78 + gn, (rm c ra rb rt rv rz fk fp rk ln bo)) := fun v h => h ▸ K
  refine g_X9_isWord_3 hS hn hB hT ?_
  refine ⟨?_, ⟨fun q => ?_, fun q => ⟨?_, ⟨?_, ⟨fun q => ?_, fun q => ⟨?_, ⟨?_, ⟨fun q => ?_, fun q => ⟨?_, ⟨?_, ⟨fun q => ?_, fun q => ⟨?_, ⟨?_, ⟨fun q => ?_, fun q => ⟨?_, ⟨?_, ⟨fun q => ?_, fun q => ?_⟩⟩⟩⟩⟩⟩⟩⟩⟩⟩⟩⟩⟩⟩⟩⟩⟩
  all_goals first | omega | (have := r (rb + 0); omega) | (have := r (rb + 1); omega) | (have := r (rb + 2); omega) | (have := r (rb + 3); omega) | (have := r (rb + 4); omega) | (refine K1 _ ?_; simp only [Nat.add_zero] at *; unfold wdB bz; split <;> rename_i hh <;> simp only [decide_eq_true_eq] at hh <;> first | rfl | (exfalso; omega))

set_option maxHeartbeats 2000000 in
set_option maxRecDepth 20000 in
theorem g_X9_passes_tz {G : GG} {j nw nx gn : Nat} {g : Nat → Sh} {c : Nat → Nat → Int} {post : Option AV → AM → Prop} {fz : Bool} {nb : Nat → Nat} {n : Nat} {ra : Nat} {rb : Nat} {rt : Nat} {rv : Nat} {fk : Nat} {fp : Int} {rk : Nat} {ln : Nat} {bo : Nat → Nat} (hS : c 49 1 = ((n : Nat) : Int)) (hn : n ≤ 300) (hB : ∀ i, nb i < 256) (hT : ∀ i, i < 300 → c 50 i = ((nb i : Nat) : Int))  (hv : ((fz = true) → post none (S nw nx g, 78 + gn, (rm c ra rb rt rv true fk fp rk ln bo))) ∧ ((fz = false) → post none (S nw nx g, 78 + gn, (rm c ra rb rt rv true fk fp rk ln bo)))) :
    SW G (j + 3) mX9_passes 0 [some (vr (49)), some (vi (bz (fz)))] [] (S nw nx g, 78 + gn, (rm c ra rb rt rv true fk fp rk ln bo)) B0 post := by
  refine sw_iload_n (dX9_passes.at 0 rfl) rfl rfl ?_
  refine sw_if_ne (tgt := 9) (dX9_passes.at 1 rfl) (by decide) (bz_rng _) (fun q => ?_) (fun q => ?_)
  · replace hv := hv.1 (bz_1 q)
    refine sw_aload_n (dX9_passes.at 5 rfl) rfl rfl ?_
    refine sw_getIE (w := bz (true)) (dX9_passes.at 6 rfl) fp_X9_131 (S_lt 49 (by decide)) (S_49 nw nx g) rfl rfl ?_
    refine sw_if_ne (tgt := 20) (dX9_passes.at 7 rfl) (by decide) (by decide) (fun q => ?_) (fun q => ?_)
    · clear q
      exact sw_vret (dX9_passes.at 10 rfl) rfl (Nat.le_refl _) (Nat.le_refl _) hv
    · exact absurd q (by decide)
  · replace hv := hv.2 (bz_n1 q)
    refine sw_aload_n (dX9_passes.at 2 rfl) rfl rfl ?_
    refine sw_iconst (dX9_passes.at 3 rfl) ?_
    refine sw_callV (B' := B0) (As := [vi (1)]) (mc := 0) (ms := 0) (dX9_passes.at 4 rfl) lk_X9_151 (S_lt 49 (by decide)) (S_49 nw nx g) rfl rfl (Nat.le_of_ble_eq_true rfl) rfl (Nat.le_refl _) (Nat.le_refl _) ?_
    refine c_X9_faults_t (w := 1) (j := j + 2) hS hn hB hT ?_
    refine sw_aload_n (dX9_passes.at 5 rfl) rfl rfl ?_
    refine sw_getIE (w := bz (true)) (dX9_passes.at 6 rfl) fp_X9_131 (S_lt 49 (by decide)) (S_49 nw nx g) rfl rfl ?_
    refine sw_if_ne (tgt := 20) (dX9_passes.at 7 rfl) (by decide) (by decide) (fun q => ?_) (fun q => ?_)
    · clear q
      exact sw_vret (dX9_passes.at 10 rfl) rfl (Nat.le_refl _) (Nat.le_refl _) hv
    · exact absurd q (by decide)

theorem c_X9_passes_tz {G : GG} {j nw nx gn : Nat} {g : Nat → Sh} {c : Nat → Nat → Int} {post : Option AV → AM → Prop} {nb : Nat → Nat} {n : Nat} {ra : Nat} {rb : Nat} {rt : Nat} {rv : Nat} {fk : Nat} {fp : Int} {rk : Nat} {ln : Nat} {bo : Nat → Nat} {fz : Bool} (hS : c 49 1 = ((n : Nat) : Int)) (hn : n ≤ 300) (hB : ∀ i, nb i < 256) (hT : ∀ i, i < 300 → c 50 i = ((nb i : Nat) : Int)) (K : post none (S nw nx g, 78 + gn, (rm c ra rb rt rv true fk fp rk ln bo))) : SM G (j + 4) mX9_passes [vr (49), vi (bz (fz))] (S nw nx g, 78 + gn, (rm c ra rb rt rv true fk fp rk ln bo)) 0 0 post := by
  refine sm_of wX9_passes rfl (Nat.le_of_ble_eq_true rfl) ?_
  refine g_X9_passes_tz hS hn hB hT ?_
  refine ⟨fun q => ?_, fun q => ?_⟩
  all_goals exact K

set_option maxHeartbeats 2000000 in
set_option maxRecDepth 20000 in
theorem g_X9_passes_t1 {G : GG} {j nw nx gn : Nat} {g : Nat → Sh} {c : Nat → Nat → Int} {post : Option AV → AM → Prop} {nb : Nat → Nat} {n : Nat} {ra : Nat} {rb : Nat} {rt : Nat} {rv : Nat} {fk : Nat} {fp : Int} {rk : Nat} {ln : Nat} {bo : Nat → Nat} (hS : c 49 1 = ((n : Nat) : Int)) (hn : n ≤ 300) (hB : ∀ i, nb i < 256) (hT : ∀ i, i < 300 → c 50 i = ((nb i : Nat) : Int))  (hv : post none (S nw nx g, 78 + gn, (rm c ra rb rt rv true fk fp rk ln bo))) :
    SW G (j + 3) mX9_passes 0 [some (vr (49)), some (vi (1))] [] (S nw nx g, 78 + gn, (rm c ra rb rt rv true fk fp rk ln bo)) B0 post := by
  refine sw_iload_n (dX9_passes.at 0 rfl) rfl rfl ?_
  refine sw_if_ne (tgt := 9) (dX9_passes.at 1 rfl) (by decide) (by decide) (fun q => ?_) (fun q => ?_)
  · clear q
    refine sw_aload_n (dX9_passes.at 5 rfl) rfl rfl ?_
    refine sw_getIE (w := bz (true)) (dX9_passes.at 6 rfl) fp_X9_131 (S_lt 49 (by decide)) (S_49 nw nx g) rfl rfl ?_
    refine sw_if_ne (tgt := 20) (dX9_passes.at 7 rfl) (by decide) (by decide) (fun q => ?_) (fun q => ?_)
    · clear q
      exact sw_vret (dX9_passes.at 10 rfl) rfl (Nat.le_refl _) (Nat.le_refl _) hv
    · exact absurd q (by decide)
  · exact absurd q (by decide)

theorem c_X9_passes_t1 {G : GG} {j nw nx gn : Nat} {g : Nat → Sh} {c : Nat → Nat → Int} {post : Option AV → AM → Prop} {nb : Nat → Nat} {n : Nat} {ra : Nat} {rb : Nat} {rt : Nat} {rv : Nat} {fk : Nat} {fp : Int} {rk : Nat} {ln : Nat} {bo : Nat → Nat} (hS : c 49 1 = ((n : Nat) : Int)) (hn : n ≤ 300) (hB : ∀ i, nb i < 256) (hT : ∀ i, i < 300 → c 50 i = ((nb i : Nat) : Int)) (K : post none (S nw nx g, 78 + gn, (rm c ra rb rt rv true fk fp rk ln bo))) : SM G (j + 4) mX9_passes [vr (49), vi (1)] (S nw nx g, 78 + gn, (rm c ra rb rt rv true fk fp rk ln bo)) 0 0 post := by
  refine sm_of wX9_passes rfl (Nat.le_of_ble_eq_true rfl) ?_
  refine g_X9_passes_t1 hS hn hB hT ?_
  refine ?_
  all_goals exact K

set_option maxHeartbeats 2000000 in
set_option maxRecDepth 20000 in
theorem g_X9_passes_fz {G : GG} {j nw nx gn : Nat} {g : Nat → Sh} {c : Nat → Nat → Int} {post : Option AV → AM → Prop} {fz : Bool} {nb : Nat → Nat} {n : Nat} {p : Nat} {fk : Nat} {fp : Int} {rk : Nat} {ln : Nat} {bo : Nat → Nat} (hS : c 49 1 = ((n : Nat) : Int)) (hn : n ≤ 300) (hB : ∀ i, nb i < 256) (hT : ∀ i, i < 300 → c 50 i = ((nb i : Nat) : Int))  (hv : ((fz = true) → ((tkT nb n p) ≤ n) ∧ (post none (S nw nx g, 78 + gn, (rm c (tkT nb n (tkT nb n p)) (tkF nb n (tkT nb n p)) (tkK nb n (tkT nb n p)) (vlS nb n (tkT nb n p)) false fk fp rk ln bo)))) ∧ ((fz = false) → post none (S nw nx g, 78 + gn, (rm c (tkT nb n p) (tkF nb n p) (tkK nb n p) (vlS nb n p) true 1 ((tkF nb n p : Nat) : Int) rk ln bo)))) :
    SW G (j + 3) mX9_passes 0 [some (vr (49)), some (vi (bz (fz)))] [] (S nw nx g, 78 + gn, (rm c (tkT nb n p) (tkF nb n p) (tkK nb n p) (vlS nb n p) false fk fp rk ln bo)) B0 post := by
  refine sw_iload_n (dX9_passes.at 0 rfl) rfl rfl ?_
  refine sw_if_ne (tgt := 9) (dX9_passes.at 1 rfl) (by decide) (bz_rng _) (fun q => ?_) (fun q => ?_)
  · replace hv := hv.1 (bz_1 q)
    refine sw_aload_n (dX9_passes.at 5 rfl) rfl rfl ?_
    refine sw_getIE (w := bz (false)) (dX9_passes.at 6 rfl) fp_X9_131 (S_lt 49 (by decide)) (S_49 nw nx g) rfl rfl ?_
    refine sw_if_ne (tgt := 20) (dX9_passes.at 7 rfl) (by decide) (by decide) (fun q => ?_) (fun q => ?_)
    · exact absurd q (by decide)
    · clear q
      refine sw_aload_n (dX9_passes.at 8 rfl) rfl rfl ?_
      refine sw_callV (B' := B0) (As := []) (mc := 0) (ms := 0) (dX9_passes.at 9 rfl) lk_X9_138 (S_lt 49 (by decide)) (S_49 nw nx g) rfl rfl (Nat.le_of_ble_eq_true rfl) rfl (Nat.le_refl _) (Nat.le_refl _) ?_
      refine c_X9_next (j := j + 0) hS hn hB hT hv.1 ?_
      replace hv := hv.2
      exact sw_vret (dX9_passes.at 10 rfl) rfl (Nat.le_refl _) (Nat.le_refl _) hv
  · replace hv := hv.2 (bz_n1 q)
    refine sw_aload_n (dX9_passes.at 2 rfl) rfl rfl ?_
    refine sw_iconst (dX9_passes.at 3 rfl) ?_
    refine sw_callV (B' := B0) (As := [vi (1)]) (mc := 0) (ms := 0) (dX9_passes.at 4 rfl) lk_X9_151 (S_lt 49 (by decide)) (S_49 nw nx g) rfl rfl (Nat.le_of_ble_eq_true rfl) rfl (Nat.le_refl _) (Nat.le_refl _) ?_
    refine c_X9_faults_f (w := 1) (j := j + 2) hS hn hB hT ?_
    refine sw_aload_n (dX9_passes.at 5 rfl) rfl rfl ?_
    refine sw_getIE (w := bz (true)) (dX9_passes.at 6 rfl) fp_X9_131 (S_lt 49 (by decide)) (S_49 nw nx g) rfl rfl ?_
    refine sw_if_ne (tgt := 20) (dX9_passes.at 7 rfl) (by decide) (by decide) (fun q => ?_) (fun q => ?_)
    · clear q
      exact sw_vret (dX9_passes.at 10 rfl) rfl (Nat.le_refl _) (Nat.le_refl _) hv
    · exact absurd q (by decide)

theorem c_X9_passes_fz {G : GG} {j nw nx gn : Nat} {g : Nat → Sh} {c : Nat → Nat → Int} {post : Option AV → AM → Prop} {nb : Nat → Nat} {n : Nat} {p : Nat} {fk : Nat} {fp : Int} {rk : Nat} {ln : Nat} {bo : Nat → Nat} {fz : Bool} (hS : c 49 1 = ((n : Nat) : Int)) (hn : n ≤ 300) (hB : ∀ i, nb i < 256) (hT : ∀ i, i < 300 → c 50 i = ((nb i : Nat) : Int)) (hp : p ≤ n) (K1 : fz = true → post none (S nw nx g, 78 + gn, (rm c (tkT nb n (tkT nb n p)) (tkF nb n (tkT nb n p)) (tkK nb n (tkT nb n p)) (vlS nb n (tkT nb n p)) false fk fp rk ln bo))) (K2 : fz = false → post none (S nw nx g, 78 + gn, (rm c (tkT nb n p) (tkF nb n p) (tkK nb n p) (vlS nb n p) true 1 ((tkF nb n p : Nat) : Int) rk ln bo))) : SM G (j + 4) mX9_passes [vr (49), vi (bz (fz))] (S nw nx g, 78 + gn, (rm c (tkT nb n p) (tkF nb n p) (tkK nb n p) (vlS nb n p) false fk fp rk ln bo)) 0 0 post := by
  refine sm_of wX9_passes rfl (Nat.le_of_ble_eq_true rfl) ?_
  have h1 := tkT_le (nb := nb) hp
  refine g_X9_passes_fz hS hn hB hT ?_
  refine ⟨fun q => ⟨?_, ?_⟩, fun q => ?_⟩
  all_goals first | omega | exact K1 ‹_› | exact K2 ‹_›

set_option maxHeartbeats 2000000 in
set_option maxRecDepth 20000 in
theorem g_X9_passes_f1 {G : GG} {j nw nx gn : Nat} {g : Nat → Sh} {c : Nat → Nat → Int} {post : Option AV → AM → Prop} {nb : Nat → Nat} {n : Nat} {p : Nat} {fk : Nat} {fp : Int} {rk : Nat} {ln : Nat} {bo : Nat → Nat} (hS : c 49 1 = ((n : Nat) : Int)) (hn : n ≤ 300) (hB : ∀ i, nb i < 256) (hT : ∀ i, i < 300 → c 50 i = ((nb i : Nat) : Int))  (hv : ((tkT nb n p) ≤ n) ∧ (post none (S nw nx g, 78 + gn, (rm c (tkT nb n (tkT nb n p)) (tkF nb n (tkT nb n p)) (tkK nb n (tkT nb n p)) (vlS nb n (tkT nb n p)) false fk fp rk ln bo)))) :
    SW G (j + 3) mX9_passes 0 [some (vr (49)), some (vi (1))] [] (S nw nx g, 78 + gn, (rm c (tkT nb n p) (tkF nb n p) (tkK nb n p) (vlS nb n p) false fk fp rk ln bo)) B0 post := by
  refine sw_iload_n (dX9_passes.at 0 rfl) rfl rfl ?_
  refine sw_if_ne (tgt := 9) (dX9_passes.at 1 rfl) (by decide) (by decide) (fun q => ?_) (fun q => ?_)
  · clear q
    refine sw_aload_n (dX9_passes.at 5 rfl) rfl rfl ?_
    refine sw_getIE (w := bz (false)) (dX9_passes.at 6 rfl) fp_X9_131 (S_lt 49 (by decide)) (S_49 nw nx g) rfl rfl ?_
    refine sw_if_ne (tgt := 20) (dX9_passes.at 7 rfl) (by decide) (by decide) (fun q => ?_) (fun q => ?_)
    · exact absurd q (by decide)
    · clear q
      refine sw_aload_n (dX9_passes.at 8 rfl) rfl rfl ?_
      refine sw_callV (B' := B0) (As := []) (mc := 0) (ms := 0) (dX9_passes.at 9 rfl) lk_X9_138 (S_lt 49 (by decide)) (S_49 nw nx g) rfl rfl (Nat.le_of_ble_eq_true rfl) rfl (Nat.le_refl _) (Nat.le_refl _) ?_
      refine c_X9_next (j := j + 0) hS hn hB hT hv.1 ?_
      replace hv := hv.2
      exact sw_vret (dX9_passes.at 10 rfl) rfl (Nat.le_refl _) (Nat.le_refl _) hv
  · exact absurd q (by decide)

theorem c_X9_passes_f1 {G : GG} {j nw nx gn : Nat} {g : Nat → Sh} {c : Nat → Nat → Int} {post : Option AV → AM → Prop} {nb : Nat → Nat} {n : Nat} {p : Nat} {fk : Nat} {fp : Int} {rk : Nat} {ln : Nat} {bo : Nat → Nat} (hS : c 49 1 = ((n : Nat) : Int)) (hn : n ≤ 300) (hB : ∀ i, nb i < 256) (hT : ∀ i, i < 300 → c 50 i = ((nb i : Nat) : Int)) (hp : p ≤ n) (K : post none (S nw nx g, 78 + gn, (rm c (tkT nb n (tkT nb n p)) (tkF nb n (tkT nb n p)) (tkK nb n (tkT nb n p)) (vlS nb n (tkT nb n p)) false fk fp rk ln bo))) : SM G (j + 4) mX9_passes [vr (49), vi (1)] (S nw nx g, 78 + gn, (rm c (tkT nb n p) (tkF nb n p) (tkK nb n p) (vlS nb n p) false fk fp rk ln bo)) 0 0 post := by
  refine sm_of wX9_passes rfl (Nat.le_of_ble_eq_true rfl) ?_
  have h1 := tkT_le (nb := nb) hp
  refine g_X9_passes_f1 hS hn hB hT ?_
  refine ⟨?_, ?_⟩
  all_goals first | omega | exact K

set_option maxHeartbeats 2000000 in
set_option maxRecDepth 20000 in
theorem g_X9_passes_f0 {G : GG} {j nw nx gn : Nat} {g : Nat → Sh} {c : Nat → Nat → Int} {post : Option AV → AM → Prop} {nb : Nat → Nat} {n : Nat} {p : Nat} {fk : Nat} {fp : Int} {rk : Nat} {ln : Nat} {bo : Nat → Nat} (hS : c 49 1 = ((n : Nat) : Int)) (hn : n ≤ 300) (hB : ∀ i, nb i < 256) (hT : ∀ i, i < 300 → c 50 i = ((nb i : Nat) : Int))  (hv : post none (S nw nx g, 78 + gn, (rm c (tkT nb n p) (tkF nb n p) (tkK nb n p) (vlS nb n p) true 1 ((tkF nb n p : Nat) : Int) rk ln bo))) :
    SW G (j + 3) mX9_passes 0 [some (vr (49)), some (vi (0))] [] (S nw nx g, 78 + gn, (rm c (tkT nb n p) (tkF nb n p) (tkK nb n p) (vlS nb n p) false fk fp rk ln bo)) B0 post := by
  refine sw_iload_n (dX9_passes.at 0 rfl) rfl rfl ?_
  refine sw_if_ne (tgt := 9) (dX9_passes.at 1 rfl) (by decide) (by decide) (fun q => ?_) (fun q => ?_)
  · exact absurd q (by decide)
  · clear q
    refine sw_aload_n (dX9_passes.at 2 rfl) rfl rfl ?_
    refine sw_iconst (dX9_passes.at 3 rfl) ?_
    refine sw_callV (B' := B0) (As := [vi (1)]) (mc := 0) (ms := 0) (dX9_passes.at 4 rfl) lk_X9_151 (S_lt 49 (by decide)) (S_49 nw nx g) rfl rfl (Nat.le_of_ble_eq_true rfl) rfl (Nat.le_refl _) (Nat.le_refl _) ?_
    refine c_X9_faults_f (w := 1) (j := j + 2) hS hn hB hT ?_
    refine sw_aload_n (dX9_passes.at 5 rfl) rfl rfl ?_
    refine sw_getIE (w := bz (true)) (dX9_passes.at 6 rfl) fp_X9_131 (S_lt 49 (by decide)) (S_49 nw nx g) rfl rfl ?_
    refine sw_if_ne (tgt := 20) (dX9_passes.at 7 rfl) (by decide) (by decide) (fun q => ?_) (fun q => ?_)
    · clear q
      exact sw_vret (dX9_passes.at 10 rfl) rfl (Nat.le_refl _) (Nat.le_refl _) hv
    · exact absurd q (by decide)

theorem c_X9_passes_f0 {G : GG} {j nw nx gn : Nat} {g : Nat → Sh} {c : Nat → Nat → Int} {post : Option AV → AM → Prop} {nb : Nat → Nat} {n : Nat} {p : Nat} {fk : Nat} {fp : Int} {rk : Nat} {ln : Nat} {bo : Nat → Nat} (hS : c 49 1 = ((n : Nat) : Int)) (hn : n ≤ 300) (hB : ∀ i, nb i < 256) (hT : ∀ i, i < 300 → c 50 i = ((nb i : Nat) : Int)) (hp : p ≤ n) (K : post none (S nw nx g, 78 + gn, (rm c (tkT nb n p) (tkF nb n p) (tkK nb n p) (vlS nb n p) true 1 ((tkF nb n p : Nat) : Int) rk ln bo))) : SM G (j + 4) mX9_passes [vr (49), vi (0)] (S nw nx g, 78 + gn, (rm c (tkT nb n p) (tkF nb n p) (tkK nb n p) (vlS nb n p) false fk fp rk ln bo)) 0 0 post := by
  refine sm_of wX9_passes rfl (Nat.le_of_ble_eq_true rfl) ?_
  have h1 := tkT_le (nb := nb) hp
  refine g_X9_passes_f0 hS hn hB hT ?_
  refine ?_
  all_goals first | omega | exact K

set_option maxHeartbeats 2000000 in
set_option maxRecDepth 20000 in
theorem g_X9_reads_t {G : GG} {j nw nx gn : Nat} {g : Nat → Sh} {c : Nat → Nat → Int} {post : Option AV → AM → Prop} {lo : Nat} {hi : Nat} {nb : Nat → Nat} {n : Nat} {ra : Nat} {rb : Nat} {rt : Nat} {rv : Nat} {fk : Nat} {fp : Int} {rk : Nat} {ln : Nat} {bo : Nat → Nat} (hS : c 49 1 = ((n : Nat) : Int)) (hn : n ≤ 300) (hB : ∀ i, nb i < 256) (hT : ∀ i, i < 300 → c 50 i = ((nb i : Nat) : Int))  (hv : post (some (vi (((lo : Nat) : Int)))) (S nw nx g, 78 + gn, (rm c ra rb rt rv true fk fp rk ln bo))) :
    SW G (j + 4) mX9_reads 0 [some (vr (49)), some (vi (((lo : Nat) : Int))), some (vi (((hi : Nat) : Int))), none] [] (S nw nx g, 78 + gn, (rm c ra rb rt rv true fk fp rk ln bo)) B0 post := by
  refine sw_aload_n (dX9_reads.at 0 rfl) rfl rfl ?_
  refine sw_getIE (w := ((rv : Nat) : Int)) (dX9_reads.at 1 rfl) fp_X9_118 (S_lt 49 (by decide)) (S_49 nw nx g) rfl rfl ?_
  refine sw_istore_n (lo' := [some (vr (49)), some (vi (((lo : Nat) : Int))), some (vi (((hi : Nat) : Int))), some (vi (((rv : Nat) : Int)))]) (dX9_reads.at 2 rfl) rfl (by decide) rfl ?_
  refine sw_aload_n (dX9_reads.at 3 rfl) rfl rfl ?_
  refine sw_getIE (w := bz (true)) (dX9_reads.at 4 rfl) fp_X9_131 (S_lt 49 (by decide)) (S_49 nw nx g) rfl rfl ?_
  refine sw_if_eq (tgt := 14) (dX9_reads.at 5 rfl) (by decide) (by decide) (fun q => ?_) (fun q => ?_)
  · exact absurd q (by decide)
  · clear q
    refine sw_iload_n (dX9_reads.at 6 rfl) rfl rfl ?_
    exact sw_iret (dX9_reads.at 7 rfl) rfl (Nat.le_refl _) (Nat.le_refl _) hv

set_option maxHeartbeats 2000000 in
set_option maxRecDepth 20000 in
theorem g_X9_reads_f {G : GG} {j nw nx gn : Nat} {g : Nat → Sh} {c : Nat → Nat → Int} {post : Option AV → AM → Prop} {lo : Nat} {hi : Nat} {nb : Nat → Nat} {n : Nat} {p : Nat} {fk : Nat} {fp : Int} {rk : Nat} {ln : Nat} {bo : Nat → Nat} (hS : c 49 1 = ((n : Nat) : Int)) (hn : n ≤ 300) (hB : ∀ i, nb i < 256) (hT : ∀ i, i < 300 → c 50 i = ((nb i : Nat) : Int))  (hv : (tkK nb n p < 2147483648) ∧ (((tkK nb n p = 2) → (vlS nb n p < 2147483648) ∧ ((lo < 2147483648) ∧ ((hi < 2147483648) ∧ ((-9223372036854775808 ≤ (((vlS nb n p : Nat) : Int) : Int) ∧ (((vlS nb n p : Nat) : Int) : Int) < 9223372036854775808) ∧ (-9223372036854775808 ≤ (((lo : Nat) : Int) : Int) ∧ (((lo : Nat) : Int) : Int) < 9223372036854775808) ∧ (-9223372036854775808 ≤ (((hi : Nat) : Int) : Int) ∧ (((hi : Nat) : Int) : Int) < 9223372036854775808) ∧ ((((decide (((lo : Nat) : Int) ≤ ((vlS nb n p : Nat) : Int) ∧ ((vlS nb n p : Nat) : Int) ≤ ((hi : Nat) : Int))) = true) → (p ≤ n) ∧ (post (some (vi (((vlS nb n p : Nat) : Int)))) (S nw nx g, 78 + gn, (rm c (tkT nb n (tkT nb n p)) (tkF nb n (tkT nb n p)) (tkK nb n (tkT nb n p)) (vlS nb n (tkT nb n p)) false fk fp rk ln bo)))) ∧ (((decide (((lo : Nat) : Int) ≤ ((vlS nb n p : Nat) : Int) ∧ ((vlS nb n p : Nat) : Int) ≤ ((hi : Nat) : Int))) = false) → post (some (vi (((vlS nb n p : Nat) : Int)))) (S nw nx g, 78 + gn, (rm c (tkT nb n p) (tkF nb n p) (tkK nb n p) (vlS nb n p) true 2 ((tkF nb n p : Nat) : Int) rk ln bo)))))))) ∧ ((¬ (tkK nb n p = 2)) → post (some (vi (((vlS nb n p : Nat) : Int)))) (S nw nx g, 78 + gn, (rm c (tkT nb n p) (tkF nb n p) (tkK nb n p) (vlS nb n p) true 1 ((tkF nb n p : Nat) : Int) rk ln bo))))) :
    SW G (j + 4) mX9_reads 0 [some (vr (49)), some (vi (((lo : Nat) : Int))), some (vi (((hi : Nat) : Int))), none] [] (S nw nx g, 78 + gn, (rm c (tkT nb n p) (tkF nb n p) (tkK nb n p) (vlS nb n p) false fk fp rk ln bo)) B0 post := by
  refine sw_aload_n (dX9_reads.at 0 rfl) rfl rfl ?_
  refine sw_getIE (w := ((vlS nb n p : Nat) : Int)) (dX9_reads.at 1 rfl) fp_X9_118 (S_lt 49 (by decide)) (S_49 nw nx g) rfl rfl ?_
  refine sw_istore_n (lo' := [some (vr (49)), some (vi (((lo : Nat) : Int))), some (vi (((hi : Nat) : Int))), some (vi (((vlS nb n p : Nat) : Int)))]) (dX9_reads.at 2 rfl) rfl (by decide) rfl ?_
  refine sw_aload_n (dX9_reads.at 3 rfl) rfl rfl ?_
  refine sw_getIE (w := bz (false)) (dX9_reads.at 4 rfl) fp_X9_131 (S_lt 49 (by decide)) (S_49 nw nx g) rfl rfl ?_
  refine sw_if_eq (tgt := 14) (dX9_reads.at 5 rfl) (by decide) (by decide) (fun q => ?_) (fun q => ?_)
  · clear q
    refine sw_aload_n (dX9_reads.at 8 rfl) rfl rfl ?_
    refine sw_getIE (w := ((tkK nb n p : Nat) : Int)) (dX9_reads.at 9 rfl) fp_X9_121 (S_lt 49 (by decide)) (S_49 nw nx g) rfl rfl ?_
    refine sw_iconst (dX9_reads.at 10 rfl) ?_
    refine sw_icmpN_eq (tkK nb n p) 2 (tgt := 30) (dX9_reads.at 11 rfl) (by decide) hv.1 (by decide) (fun q => ?_) (fun q => ?_)
    · replace hv := hv.2.1 q
      refine sw_iload_n (dX9_reads.at 16 rfl) rfl rfl ?_
      refine sw_i2l (dX9_reads.at 17 rfl) (nrng hv.1) ?_
      replace hv := hv.2
      refine sw_iload_n (dX9_reads.at 18 rfl) rfl rfl ?_
      refine sw_i2l (dX9_reads.at 19 rfl) (nrng hv.1) ?_
      replace hv := hv.2
      refine sw_iload_n (dX9_reads.at 20 rfl) rfl rfl ?_
      refine sw_i2l (dX9_reads.at 21 rfl) (nrng hv.1) ?_
      replace hv := hv.2
      refine sw_callS (post' := post) (B' := B0) (As := [vl (((vlS nb n p : Nat) : Int)), vl (((lo : Nat) : Int)), vl (((hi : Nat) : Int))]) (mc := 0) (ms := 0) (dX9_reads.at 22 rfl) lk_X9_104 rfl rfl (Nat.le_of_ble_eq_true rfl) rfl (Nat.le_refl _) (Nat.le_refl _) ?_
      refine c_X9_in (u := ((vlS nb n p : Nat) : Int)) (lo := ((lo : Nat) : Int)) (hi := ((hi : Nat) : Int)) (j := j + 3) hv.1 hv.2.1 hv.2.2.1 ?_
      replace hv := hv.2.2.2
      refine sw_if_ne (tgt := 47) (dX9_reads.at 23 rfl) (by decide) (bz_rng _) (fun q => ?_) (fun q => ?_)
      · replace hv := hv.1 (bz_1 q)
        refine sw_aload_n (dX9_reads.at 27 rfl) rfl rfl ?_
        refine sw_iconst (dX9_reads.at 28 rfl) ?_
        refine sw_callV (B' := B0) (As := [vi (1)]) (mc := 0) (ms := 0) (dX9_reads.at 29 rfl) lk_X9_155 (S_lt 49 (by decide)) (S_49 nw nx g) rfl rfl (Nat.le_of_ble_eq_true rfl) rfl (Nat.le_refl _) (Nat.le_refl _) ?_
        refine c_X9_passes_f1 (j := j + 0) hS hn hB hT hv.1 ?_
        replace hv := hv.2
        refine sw_iload_n (dX9_reads.at 30 rfl) rfl rfl ?_
        exact sw_iret (dX9_reads.at 31 rfl) rfl (Nat.le_refl _) (Nat.le_refl _) hv
      · replace hv := hv.2 (bz_n1 q)
        refine sw_aload_n (dX9_reads.at 24 rfl) rfl rfl ?_
        refine sw_iconst (dX9_reads.at 25 rfl) ?_
        refine sw_callV (B' := B0) (As := [vi (2)]) (mc := 0) (ms := 0) (dX9_reads.at 26 rfl) lk_X9_151 (S_lt 49 (by decide)) (S_49 nw nx g) rfl rfl (Nat.le_of_ble_eq_true rfl) rfl (Nat.le_refl _) (Nat.le_refl _) ?_
        refine c_X9_faults_f (w := 2) (j := j + 3) hS hn hB hT ?_
        refine sw_aload_n (dX9_reads.at 27 rfl) rfl rfl ?_
        refine sw_iconst (dX9_reads.at 28 rfl) ?_
        refine sw_callV (B' := B0) (As := [vi (1)]) (mc := 0) (ms := 0) (dX9_reads.at 29 rfl) lk_X9_155 (S_lt 49 (by decide)) (S_49 nw nx g) rfl rfl (Nat.le_of_ble_eq_true rfl) rfl (Nat.le_refl _) (Nat.le_refl _) ?_
        refine c_X9_passes_t1 (j := j + 0) hS hn hB hT ?_
        refine sw_iload_n (dX9_reads.at 30 rfl) rfl rfl ?_
        exact sw_iret (dX9_reads.at 31 rfl) rfl (Nat.le_refl _) (Nat.le_refl _) hv
    · replace hv := hv.2.2 q
      refine sw_aload_n (dX9_reads.at 12 rfl) rfl rfl ?_
      refine sw_iconst (dX9_reads.at 13 rfl) ?_
      refine sw_callV (B' := B0) (As := [vi (1)]) (mc := 0) (ms := 0) (dX9_reads.at 14 rfl) lk_X9_151 (S_lt 49 (by decide)) (S_49 nw nx g) rfl rfl (Nat.le_of_ble_eq_true rfl) rfl (Nat.le_refl _) (Nat.le_refl _) ?_
      refine c_X9_faults_f (w := 1) (j := j + 3) hS hn hB hT ?_
      refine sw_goto (tgt := 47) (dX9_reads.at 15 rfl) (by decide) ?_
      refine sw_aload_n (dX9_reads.at 27 rfl) rfl rfl ?_
      refine sw_iconst (dX9_reads.at 28 rfl) ?_
      refine sw_callV (B' := B0) (As := [vi (1)]) (mc := 0) (ms := 0) (dX9_reads.at 29 rfl) lk_X9_155 (S_lt 49 (by decide)) (S_49 nw nx g) rfl rfl (Nat.le_of_ble_eq_true rfl) rfl (Nat.le_refl _) (Nat.le_refl _) ?_
      refine c_X9_passes_t1 (j := j + 0) hS hn hB hT ?_
      refine sw_iload_n (dX9_reads.at 30 rfl) rfl rfl ?_
      exact sw_iret (dX9_reads.at 31 rfl) rfl (Nat.le_refl _) (Nat.le_refl _) hv
  · exact absurd q (by decide)

theorem c_X9_reads_t {G : GG} {j nw nx gn : Nat} {g : Nat → Sh} {c : Nat → Nat → Int} {post : Option AV → AM → Prop} {nb : Nat → Nat} {n : Nat} {ra : Nat} {rb : Nat} {rt : Nat} {rv : Nat} {fk : Nat} {fp : Int} {rk : Nat} {ln : Nat} {bo : Nat → Nat} {lo hi : Nat} (hS : c 49 1 = ((n : Nat) : Int)) (hn : n ≤ 300) (hB : ∀ i, nb i < 256) (hT : ∀ i, i < 300 → c 50 i = ((nb i : Nat) : Int)) (K : post (some (vi ((lo : Nat) : Int))) (S nw nx g, 78 + gn, (rm c ra rb rt rv true fk fp rk ln bo))) : SM G (j + 5) mX9_reads [vr (49), vi (((lo : Nat) : Int)), vi (((hi : Nat) : Int))] (S nw nx g, 78 + gn, (rm c ra rb rt rv true fk fp rk ln bo)) 0 0 post := by
  refine sm_of wX9_reads rfl (Nat.le_of_ble_eq_true rfl) ?_
  refine g_X9_reads_t hS hn hB hT ?_
  exact K
set_option maxHeartbeats 4000000 in
theorem c_X9_reads_f {G : GG} {j nw nx gn : Nat} {g : Nat → Sh} {c : Nat → Nat → Int} {post : Option AV → AM → Prop} {nb : Nat → Nat} {n : Nat} {p : Nat} {fk : Nat} {fp : Int} {rk : Nat} {ln : Nat} {bo : Nat → Nat} {lo hi : Nat} (hS : c 49 1 = ((n : Nat) : Int)) (hn : n ≤ 300) (hB : ∀ i, nb i < 256) (hT : ∀ i, i < 300 → c 50 i = ((nb i : Nat) : Int)) (hp : p ≤ n) (p1 : lo < 100) (p2 : hi < 100) (K1 : tkK nb n p = 2 ∧ lo ≤ vlT nb n p ∧ vlT nb n p ≤ hi → post (some (vi ((vlT nb n p : Nat) : Int))) (S nw nx g, 78 + gn, (rm c (tkT nb n (tkT nb n p)) (tkF nb n (tkT nb n p)) (tkK nb n (tkT nb n p)) (vlS nb n (tkT nb n p)) false fk fp rk ln bo))) (K2 : tkK nb n p ≠ 2 → ∀ y : Nat, y ≤ 99999 → post (some (vi ((y : Nat) : Int))) (S nw nx g, 78 + gn, (rm c (tkT nb n p) (tkF nb n p) (tkK nb n p) (vlS nb n p) true 1 ((tkF nb n p : Nat) : Int) rk ln bo))) (K3 : tkK nb n p = 2 ∧ ¬ (lo ≤ vlT nb n p ∧ vlT nb n p ≤ hi) → ∀ y : Nat, y ≤ 99999 → post (some (vi ((y : Nat) : Int))) (S nw nx g, 78 + gn, (rm c (tkT nb n p) (tkF nb n p) (tkK nb n p) (vlS nb n p) true 2 ((tkF nb n p : Nat) : Int) rk ln bo))) : SM G (j + 5) mX9_reads [vr (49), vi (((lo : Nat) : Int)), vi (((hi : Nat) : Int))] (S nw nx g, 78 + gn, (rm c (tkT nb n p) (tkF nb n p) (tkK nb n p) (vlS nb n p) false fk fp rk ln bo)) 0 0 post := by
  refine sm_of wX9_reads rfl (Nat.le_of_ble_eq_true rfl) ?_
  have h1 := tkT_le (nb := nb) hp
  have h2 := tkF_le (nb := nb) hp
  have h3 := tkK_le (nb := nb) (n := n) (p := p)
  have h4 := vlS_le (nb := nb) (n := n) (p := p)
  have h5 := vlS_T (nb := nb) hp
  have h6 := vlT_le (nb := nb) hp
  refine g_X9_reads_f hS hn hB hT ?_
  by_cases a1 : tkK nb n p = 2
  · have h5 := h5 a1
    have h6 := h6 a1
    by_cases a2 : lo ≤ vlT nb n p ∧ vlT nb n p ≤ hi
    · have e : vlS nb n p = vlT nb n p := by omega
      have K1 := K1 ⟨a1, a2⟩
      rw [← e] at K1
      refine ⟨?_, ⟨fun q => ⟨?_, ⟨?_, ⟨?_, ⟨?_, ?_, ?_, ⟨fun q => ⟨?_, ?_⟩, fun q => ?_⟩⟩⟩⟩⟩, fun q => ?_⟩⟩
      all_goals (try simp only [decide_eq_true_eq, decide_eq_false_iff_not] at *)
      all_goals first | omega | exact K1 | (exfalso; omega)
    · refine ⟨?_, ⟨fun q => ⟨?_, ⟨?_, ⟨?_, ⟨?_, ?_, ?_, ⟨fun q => ⟨?_, ?_⟩, fun q => ?_⟩⟩⟩⟩⟩, fun q => ?_⟩⟩
      all_goals (try simp only [decide_eq_true_eq, decide_eq_false_iff_not] at *)
      all_goals first | omega | exact K3 ⟨a1, a2⟩ _ h4 | (exfalso; omega)
  · refine ⟨?_, ⟨fun q => ⟨?_, ⟨?_, ⟨?_, ⟨?_, ?_, ?_, ⟨fun q => ⟨?_, ?_⟩, fun q => ?_⟩⟩⟩⟩⟩, fun q => ?_⟩⟩
    all_goals (try simp only [decide_eq_true_eq, decide_eq_false_iff_not] at *)
    all_goals first | omega | exact K2 a1 _ h4 | (exfalso; omega)

set_option maxHeartbeats 2000000 in
set_option maxRecDepth 20000 in
theorem g_X9_readsLetter_t {G : GG} {j nw nx gn : Nat} {g : Nat → Sh} {c : Nat → Nat → Int} {post : Option AV → AM → Prop} {z : Int} {nb : Nat → Nat} {n : Nat} {ra : Nat} {rb : Nat} {rt : Nat} {rv : Nat} {fk : Nat} {fp : Int} {rk : Nat} {ln : Nat} {bo : Nat → Nat} (hS : c 49 1 = ((n : Nat) : Int)) (hn : n ≤ 300) (hB : ∀ i, nb i < 256) (hT : ∀ i, i < 300 → c 50 i = ((nb i : Nat) : Int))  (hv : post (some (vi (0))) (S nw nx g, 78 + gn, (rm c ra rb rt rv true fk fp rk ln bo))) :
    SW G (j + 4) mX9_readsLetter 0 [some (vr (49)), some (vi (z)), none] [] (S nw nx g, 78 + gn, (rm c ra rb rt rv true fk fp rk ln bo)) B0 post := by
  refine sw_aload_n (dX9_readsLetter_0.at 0 rfl) rfl rfl ?_
  refine sw_getIE (w := bz (true)) (dX9_readsLetter_0.at 1 rfl) fp_X9_131 (S_lt 49 (by decide)) (S_49 nw nx g) rfl rfl ?_
  refine sw_if_eq (tgt := 9) (dX9_readsLetter_0.at 2 rfl) (by decide) (by decide) (fun q => ?_) (fun q => ?_)
  · exact absurd q (by decide)
  · clear q
    refine sw_iconst (dX9_readsLetter_0.at 3 rfl) ?_
    exact sw_iret (dX9_readsLetter_0.at 4 rfl) rfl (Nat.le_refl _) (Nat.le_refl _) hv

theorem c_X9_readsLetter_t {G : GG} {j nw nx gn : Nat} {g : Nat → Sh} {c : Nat → Nat → Int} {post : Option AV → AM → Prop} {nb : Nat → Nat} {n : Nat} {ra : Nat} {rb : Nat} {rt : Nat} {rv : Nat} {fk : Nat} {fp : Int} {rk : Nat} {ln : Nat} {bo : Nat → Nat} {z : Int} (hS : c 49 1 = ((n : Nat) : Int)) (hn : n ≤ 300) (hB : ∀ i, nb i < 256) (hT : ∀ i, i < 300 → c 50 i = ((nb i : Nat) : Int)) (K : post (some (vi 0)) (S nw nx g, 78 + gn, (rm c ra rb rt rv true fk fp rk ln bo))) : SM G (j + 5) mX9_readsLetter [vr 49, vi z] (S nw nx g, 78 + gn, (rm c ra rb rt rv true fk fp rk ln bo)) 0 0 post := by
  refine sm_of wX9_readsLetter rfl (Nat.le_of_ble_eq_true rfl) ?_
  refine g_X9_readsLetter_t hS hn hB hT ?_
  exact K

set_option maxHeartbeats 2000000 in
set_option maxRecDepth 20000 in
theorem g_X9_readsLetter_m {G : GG} {j nw nx gn : Nat} {g : Nat → Sh} {c : Nat → Nat → Int} {post : Option AV → AM → Prop} {nb : Nat → Nat} {n : Nat} {p : Nat} {fk : Nat} {fp : Int} {rk : Nat} {ln : Nat} {bo : Nat → Nat} (hS : c 49 1 = ((n : Nat) : Int)) (hn : n ≤ 300) (hB : ∀ i, nb i < 256) (hT : ∀ i, i < 300 → c 50 i = ((nb i : Nat) : Int))  (hv : (tkF nb n p < 2147483648) ∧ (((min (tkF nb n p) 299) < 300) ∧ ((97 ≤ nb (min (tkF nb n p) 299)) ∧ ((tkK nb n p < 2147483648) ∧ (((tkK nb n p ≠ 1) → post (some (vi (0))) (S nw nx g, 78 + gn, (rm c (tkT nb n p) (tkF nb n p) (tkK nb n p) (vlS nb n p) true 1 ((tkF nb n p : Nat) : Int) rk ln bo))) ∧ ((tkK nb n p = 1) → (tkF nb n p ≤ tkT nb n p) ∧ (((tkT nb n p) - (tkF nb n p) < 2147483648) ∧ ((((tkT nb n p) - (tkF nb n p) = 1) → ((nb (min (tkF nb n p) 299)) - 97 < 2147483648) ∧ (rk < 2147483648) ∧ (((rk ≤ (nb (min (tkF nb n p) 299)) - 97) → post (some (vi (0))) (S nw nx g, 78 + gn, (rm c (tkT nb n p) (tkF nb n p) (tkK nb n p) (vlS nb n p) true 2 ((tkF nb n p : Nat) : Int) rk ln bo))) ∧ ((¬ (rk ≤ (nb (min (tkF nb n p) 299)) - 97)) → ((nb (min (tkF nb n p) 299)) - 97 < 2147483648) ∧ ((((((nb (min (tkF nb n p) 299)) - 97 : Nat) : Int) = (-1)) → post (some (vi (0))) (S nw nx g, 78 + gn, (rm c (tkT nb n p) (tkF nb n p) (tkK nb n p) (vlS nb n p) true 2 ((tkF nb n p : Nat) : Int) rk ln bo))) ∧ ((¬ ((((nb (min (tkF nb n p) 299)) - 97 : Nat) : Int) = (-1))) → (p ≤ n) ∧ (post (some (vi ((((nb (min (tkF nb n p) 299)) - 97 : Nat) : Int)))) (S nw nx g, 78 + gn, (rm c (tkT nb n (tkT nb n p)) (tkF nb n (tkT nb n p)) (tkK nb n (tkT nb n p)) (vlS nb n (tkT nb n p)) false fk fp rk ln bo)))))))) ∧ ((¬ ((tkT nb n p) - (tkF nb n p) = 1)) → post (some (vi (0))) (S nw nx g, 78 + gn, (rm c (tkT nb n p) (tkF nb n p) (tkK nb n p) (vlS nb n p) true 1 ((tkF nb n p : Nat) : Int) rk ln bo))))))))))) :
    SW G (j + 4) mX9_readsLetter 0 [some (vr (49)), some (vi ((-1))), none] [] (S nw nx g, 78 + gn, (rm c (tkT nb n p) (tkF nb n p) (tkK nb n p) (vlS nb n p) false fk fp rk ln bo)) B0 post := by
  refine sw_aload_n (dX9_readsLetter_0.at 0 rfl) rfl rfl ?_
  refine sw_getIE (w := bz (false)) (dX9_readsLetter_0.at 1 rfl) fp_X9_131 (S_lt 49 (by decide)) (S_49 nw nx g) rfl rfl ?_
  refine sw_if_eq (tgt := 9) (dX9_readsLetter_0.at 2 rfl) (by decide) (by decide) (fun q => ?_) (fun q => ?_)
  · clear q
    refine sw_aload_n (dX9_readsLetter_0.at 5 rfl) rfl rfl ?_
    refine sw_getR (dX9_readsLetter_0.at 6 rfl) fp_X9_7 (S_lt 49 (by decide)) (S_49 nw nx g) rfl rfl ?_
    refine sw_aload_n (dX9_readsLetter_0.at 7 rfl) rfl rfl ?_
    refine sw_getIE (w := ((tkF nb n p : Nat) : Int)) (dX9_readsLetter_0.at 8 rfl) fp_X9_115 (S_lt 49 (by decide)) (S_49 nw nx g) rfl rfl ?_
    refine sw_sipush (dX9_readsLetter_0.at 9 rfl) (by decide) ?_
    refine sw_imin (dX9_readsLetter_0.at 10 rfl) lk_X9_125 (Nat.le_of_ble_eq_true rfl) (Nat.le_refl _) (Nat.le_refl _) (nrng hv.1) (by decide) ?_
    refine sw_topI (y := (((min (tkF nb n p) 299) : Nat) : Int)) (congrArg _ (min_if _ _)) ?_
    replace hv := hv.2
    refine sw_ialdN (min (tkF nb n p) 299) (w := ((nb (min (tkF nb n p) 299) : Nat) : Int)) (dX9_readsLetter_0.at 11 rfl) (S_lt 50 (by decide)) (S_50 nw nx g) (by decide) hv.1 (hT _ hv.1) ?_
    replace hv := hv.2
    refine sw_bipush (dX9_readsLetter_0.at 12 rfl) (by decide) ?_
    refine sw_isub (dX9_readsLetter_0.at 13 rfl) ?_
    refine sw_topI (y := (((nb (min (tkF nb n p) 299)) - 97 : Nat) : Int)) (congrArg _ (Int.ofNat_sub hv.1).symm) ?_
    replace hv := hv.2
    refine sw_istore_n (lo' := [some (vr (49)), some (vi ((-1))), some (vi ((((nb (min (tkF nb n p) 299)) - 97 : Nat) : Int)))]) (dX9_readsLetter_0.at 14 rfl) rfl (by decide) rfl ?_
    refine sw_aload_n (dX9_readsLetter_0.at 15 rfl) rfl rfl ?_
    refine sw_getIE (w := ((tkK nb n p : Nat) : Int)) (dX9_readsLetter_0.at 16 rfl) fp_X9_121 (S_lt 49 (by decide)) (S_49 nw nx g) rfl rfl ?_
    refine sw_iconst (dX9_readsLetter_0.at 17 rfl) ?_
    refine sw_icmpN_ne (tkK nb n p) 1 (tgt := 49) (dX9_readsLetter_0.at 18 rfl) (by decide) hv.1 (by decide) (fun q => ?_) (fun q => ?_)
    · replace hv := hv.2.1 q
      refine sw_aload_n (dX9_readsLetter_0.at 26 rfl) rfl rfl ?_
      refine sw_iconst (dX9_readsLetter_0.at 27 rfl) ?_
      refine sw_callV (B' := B0) (As := [vi (1)]) (mc := 0) (ms := 0) (dX9_readsLetter_0.at 28 rfl) lk_X9_151 (S_lt 49 (by decide)) (S_49 nw nx g) rfl rfl (Nat.le_of_ble_eq_true rfl) rfl (Nat.le_refl _) (Nat.le_refl _) ?_
      refine c_X9_faults_f (w := 1) (j := j + 3) hS hn hB hT ?_
      refine sw_goto (tgt := 94) (dX9_readsLetter_0.at 29 rfl) (by decide) ?_
      refine sw_aload_n (dX9_readsLetter_1.at 3 rfl) rfl rfl ?_
      refine sw_iconst (dX9_readsLetter_1.at 4 rfl) ?_
      refine sw_callV (B' := B0) (As := [vi (1)]) (mc := 0) (ms := 0) (dX9_readsLetter_1.at 5 rfl) lk_X9_155 (S_lt 49 (by decide)) (S_49 nw nx g) rfl rfl (Nat.le_of_ble_eq_true rfl) rfl (Nat.le_refl _) (Nat.le_refl _) ?_
      refine c_X9_passes_t1 (j := j + 0) hS hn hB hT ?_
      refine sw_aload_n (dX9_readsLetter_1.at 6 rfl) rfl rfl ?_
      refine sw_getIE (w := bz (true)) (dX9_readsLetter_1.at 7 rfl) fp_X9_131 (S_lt 49 (by decide)) (S_49 nw nx g) rfl rfl ?_
      refine sw_if_eq (tgt := 110) (dX9_readsLetter_1.at 8 rfl) (by decide) (by decide) (fun q => ?_) (fun q => ?_)
      · exact absurd q (by decide)
      · clear q
        refine sw_iconst (dX9_readsLetter_1.at 9 rfl) ?_
        refine sw_goto (tgt := 111) (dX9_readsLetter_1.at 10 rfl) (by decide) ?_
        exact sw_iret (dX9_readsLetter_1.at 12 rfl) rfl (Nat.le_refl _) (Nat.le_refl _) hv
    · replace hv := hv.2.2 q
      refine sw_aload_n (dX9_readsLetter_0.at 19 rfl) rfl rfl ?_
      refine sw_getIE (w := ((tkT nb n p : Nat) : Int)) (dX9_readsLetter_0.at 20 rfl) fp_X9_108 (S_lt 49 (by decide)) (S_49 nw nx g) rfl rfl ?_
      refine sw_aload_n (dX9_readsLetter_0.at 21 rfl) rfl rfl ?_
      refine sw_getIE (w := ((tkF nb n p : Nat) : Int)) (dX9_readsLetter_0.at 22 rfl) fp_X9_115 (S_lt 49 (by decide)) (S_49 nw nx g) rfl rfl ?_
      refine sw_isub (dX9_readsLetter_0.at 23 rfl) ?_
      refine sw_topI (y := (((tkT nb n p) - (tkF nb n p) : Nat) : Int)) (congrArg _ (Int.ofNat_sub hv.1).symm) ?_
      replace hv := hv.2
      refine sw_iconst (dX9_readsLetter_0.at 24 rfl) ?_
      refine sw_icmpN_eq ((tkT nb n p) - (tkF nb n p)) 1 (tgt := 57) (dX9_readsLetter_0.at 25 rfl) (by decide) hv.1 (by decide) (fun q => ?_) (fun q => ?_)
      · replace hv := hv.2.1 q
        refine sw_iload_n (dX9_readsLetter_0.at 30 rfl) rfl rfl ?_
        refine sw_aload_n (dX9_readsLetter_0.at 31 rfl) rfl rfl ?_
        refine sw_getIE (w := ((rk : Nat) : Int)) (dX9_readsLetter_0.at 32 rfl) fp_X9_159 (S_lt 49 (by decide)) (S_49 nw nx g) rfl rfl ?_
        refine sw_icmpN_ge ((nb (min (tkF nb n p) 299)) - 97) rk (tgt := 89) (dX9_readsLetter_0.at 33 rfl) (by decide) hv.1 hv.2.1 (fun q => ?_) (fun q => ?_)
        · replace hv := hv.2.2.1 q
          refine sw_aload_n (dX9_readsLetter_1.at 0 rfl) rfl rfl ?_
          refine sw_iconst (dX9_readsLetter_1.at 1 rfl) ?_
          refine sw_callV (B' := B0) (As := [vi (2)]) (mc := 0) (ms := 0) (dX9_readsLetter_1.at 2 rfl) lk_X9_151 (S_lt 49 (by decide)) (S_49 nw nx g) rfl rfl (Nat.le_of_ble_eq_true rfl) rfl (Nat.le_refl _) (Nat.le_refl _) ?_
          refine c_X9_faults_f (w := 2) (j := j + 3) hS hn hB hT ?_
          refine sw_aload_n (dX9_readsLetter_1.at 3 rfl) rfl rfl ?_
          refine sw_iconst (dX9_readsLetter_1.at 4 rfl) ?_
          refine sw_callV (B' := B0) (As := [vi (1)]) (mc := 0) (ms := 0) (dX9_readsLetter_1.at 5 rfl) lk_X9_155 (S_lt 49 (by decide)) (S_49 nw nx g) rfl rfl (Nat.le_of_ble_eq_true rfl) rfl (Nat.le_refl _) (Nat.le_refl _) ?_
          refine c_X9_passes_t1 (j := j + 0) hS hn hB hT ?_
          refine sw_aload_n (dX9_readsLetter_1.at 6 rfl) rfl rfl ?_
          refine sw_getIE (w := bz (true)) (dX9_readsLetter_1.at 7 rfl) fp_X9_131 (S_lt 49 (by decide)) (S_49 nw nx g) rfl rfl ?_
          refine sw_if_eq (tgt := 110) (dX9_readsLetter_1.at 8 rfl) (by decide) (by decide) (fun q => ?_) (fun q => ?_)
          · exact absurd q (by decide)
          · clear q
            refine sw_iconst (dX9_readsLetter_1.at 9 rfl) ?_
            refine sw_goto (tgt := 111) (dX9_readsLetter_1.at 10 rfl) (by decide) ?_
            exact sw_iret (dX9_readsLetter_1.at 12 rfl) rfl (Nat.le_refl _) (Nat.le_refl _) hv
        · replace hv := hv.2.2.2 q
          refine sw_iload_n (dX9_readsLetter_0.at 34 rfl) rfl rfl ?_
          refine sw_iload_n (dX9_readsLetter_0.at 35 rfl) rfl rfl ?_
          refine sw_icmp_eq (tgt := 89) (dX9_readsLetter_0.at 36 rfl) (by decide) (nrng hv.1) (by decide) (fun q => ?_) (fun q => ?_)
          · replace hv := hv.2.1 q
            refine sw_aload_n (dX9_readsLetter_1.at 0 rfl) rfl rfl ?_
            refine sw_iconst (dX9_readsLetter_1.at 1 rfl) ?_
            refine sw_callV (B' := B0) (As := [vi (2)]) (mc := 0) (ms := 0) (dX9_readsLetter_1.at 2 rfl) lk_X9_151 (S_lt 49 (by decide)) (S_49 nw nx g) rfl rfl (Nat.le_of_ble_eq_true rfl) rfl (Nat.le_refl _) (Nat.le_refl _) ?_
            refine c_X9_faults_f (w := 2) (j := j + 3) hS hn hB hT ?_
            refine sw_aload_n (dX9_readsLetter_1.at 3 rfl) rfl rfl ?_
            refine sw_iconst (dX9_readsLetter_1.at 4 rfl) ?_
            refine sw_callV (B' := B0) (As := [vi (1)]) (mc := 0) (ms := 0) (dX9_readsLetter_1.at 5 rfl) lk_X9_155 (S_lt 49 (by decide)) (S_49 nw nx g) rfl rfl (Nat.le_of_ble_eq_true rfl) rfl (Nat.le_refl _) (Nat.le_refl _) ?_
            refine c_X9_passes_t1 (j := j + 0) hS hn hB hT ?_
            refine sw_aload_n (dX9_readsLetter_1.at 6 rfl) rfl rfl ?_
            refine sw_getIE (w := bz (true)) (dX9_readsLetter_1.at 7 rfl) fp_X9_131 (S_lt 49 (by decide)) (S_49 nw nx g) rfl rfl ?_
            refine sw_if_eq (tgt := 110) (dX9_readsLetter_1.at 8 rfl) (by decide) (by decide) (fun q => ?_) (fun q => ?_)
            · exact absurd q (by decide)
            · clear q
              refine sw_iconst (dX9_readsLetter_1.at 9 rfl) ?_
              refine sw_goto (tgt := 111) (dX9_readsLetter_1.at 10 rfl) (by decide) ?_
              exact sw_iret (dX9_readsLetter_1.at 12 rfl) rfl (Nat.le_refl _) (Nat.le_refl _) hv
          · replace hv := hv.2.2 q
            refine sw_iload_n (dX9_readsLetter_0.at 37 rfl) rfl rfl ?_
            refine sw_iconst (dX9_readsLetter_0.at 38 rfl) ?_
            refine sw_icmp_eq (tgt := 94) (dX9_readsLetter_0.at 39 rfl) (by decide) (by decide) (by decide) (fun q => ?_) (fun q => ?_)
            · clear q
              refine sw_aload_n (dX9_readsLetter_1.at 3 rfl) rfl rfl ?_
              refine sw_iconst (dX9_readsLetter_1.at 4 rfl) ?_
              refine sw_callV (B' := B0) (As := [vi (1)]) (mc := 0) (ms := 0) (dX9_readsLetter_1.at 5 rfl) lk_X9_155 (S_lt 49 (by decide)) (S_49 nw nx g) rfl rfl (Nat.le_of_ble_eq_true rfl) rfl (Nat.le_refl _) (Nat.le_refl _) ?_
              refine c_X9_passes_f1 (j := j + 0) hS hn hB hT hv.1 ?_
              replace hv := hv.2
              refine sw_aload_n (dX9_readsLetter_1.at 6 rfl) rfl rfl ?_
              refine sw_getIE (w := bz (false)) (dX9_readsLetter_1.at 7 rfl) fp_X9_131 (S_lt 49 (by decide)) (S_49 nw nx g) rfl rfl ?_
              refine sw_if_eq (tgt := 110) (dX9_readsLetter_1.at 8 rfl) (by decide) (by decide) (fun q => ?_) (fun q => ?_)
              · clear q
                refine sw_iload_n (dX9_readsLetter_1.at 11 rfl) rfl rfl ?_
                exact sw_iret (dX9_readsLetter_1.at 12 rfl) rfl (Nat.le_refl _) (Nat.le_refl _) hv
              · exact absurd q (by decide)
            · exact absurd q (by decide)
      · replace hv := hv.2.2 q
        refine sw_aload_n (dX9_readsLetter_0.at 26 rfl) rfl rfl ?_
        refine sw_iconst (dX9_readsLetter_0.at 27 rfl) ?_
        refine sw_callV (B' := B0) (As := [vi (1)]) (mc := 0) (ms := 0) (dX9_readsLetter_0.at 28 rfl) lk_X9_151 (S_lt 49 (by decide)) (S_49 nw nx g) rfl rfl (Nat.le_of_ble_eq_true rfl) rfl (Nat.le_refl _) (Nat.le_refl _) ?_
        refine c_X9_faults_f (w := 1) (j := j + 3) hS hn hB hT ?_
        refine sw_goto (tgt := 94) (dX9_readsLetter_0.at 29 rfl) (by decide) ?_
        refine sw_aload_n (dX9_readsLetter_1.at 3 rfl) rfl rfl ?_
        refine sw_iconst (dX9_readsLetter_1.at 4 rfl) ?_
        refine sw_callV (B' := B0) (As := [vi (1)]) (mc := 0) (ms := 0) (dX9_readsLetter_1.at 5 rfl) lk_X9_155 (S_lt 49 (by decide)) (S_49 nw nx g) rfl rfl (Nat.le_of_ble_eq_true rfl) rfl (Nat.le_refl _) (Nat.le_refl _) ?_
        refine c_X9_passes_t1 (j := j + 0) hS hn hB hT ?_
        refine sw_aload_n (dX9_readsLetter_1.at 6 rfl) rfl rfl ?_
        refine sw_getIE (w := bz (true)) (dX9_readsLetter_1.at 7 rfl) fp_X9_131 (S_lt 49 (by decide)) (S_49 nw nx g) rfl rfl ?_
        refine sw_if_eq (tgt := 110) (dX9_readsLetter_1.at 8 rfl) (by decide) (by decide) (fun q => ?_) (fun q => ?_)
        · exact absurd q (by decide)
        · clear q
          refine sw_iconst (dX9_readsLetter_1.at 9 rfl) ?_
          refine sw_goto (tgt := 111) (dX9_readsLetter_1.at 10 rfl) (by decide) ?_
          exact sw_iret (dX9_readsLetter_1.at 12 rfl) rfl (Nat.le_refl _) (Nat.le_refl _) hv
  · exact absurd q (by decide)

set_option maxHeartbeats 2000000 in
set_option maxRecDepth 20000 in
theorem g_X9_readsLetter_mi {G : GG} {j nw nx gn : Nat} {g : Nat → Sh} {c : Nat → Nat → Int} {post : Option AV → AM → Prop} {nb : Nat → Nat} {n : Nat} {p : Nat} {fk : Nat} {fp : Int} {rk : Nat} {ln : Nat} {bo : Nat → Nat} (hS : c 49 1 = ((n : Nat) : Int)) (hn : n ≤ 300) (hB : ∀ i, nb i < 256) (hT : ∀ i, i < 300 → c 50 i = ((nb i : Nat) : Int))  (hv : (tkF nb n p < 2147483648) ∧ (((min (tkF nb n p) 299) < 300) ∧ ((tkK nb n p < 2147483648) ∧ (((tkK nb n p ≠ 1) → post (some (vi (0))) (S nw nx g, 78 + gn, (rm c (tkT nb n p) (tkF nb n p) (tkK nb n p) (vlS nb n p) true 1 ((tkF nb n p : Nat) : Int) rk ln bo))) ∧ ((tkK nb n p = 1) → (-2147483648 ≤ ((tkT nb n p : Nat) : Int) - ((tkF nb n p : Nat) : Int) ∧ ((tkT nb n p : Nat) : Int) - ((tkF nb n p : Nat) : Int) < 2147483648) ∧ (((((tkT nb n p : Nat) : Int) - ((tkF nb n p : Nat) : Int) = 1) → SW G (j + 4) mX9_readsLetter 57 [some (vr (49)), some (vi ((-1))), some (vi (((nb (min (tkF nb n p) 299) : Nat) : Int) - 97))] [] (S nw nx g, 78 + gn, (rm c (tkT nb n p) (tkF nb n p) (tkK nb n p) (vlS nb n p) false fk fp rk ln bo)) B0 post) ∧ ((¬ (((tkT nb n p : Nat) : Int) - ((tkF nb n p : Nat) : Int) = 1)) → post (some (vi (0))) (S nw nx g, 78 + gn, (rm c (tkT nb n p) (tkF nb n p) (tkK nb n p) (vlS nb n p) true 1 ((tkF nb n p : Nat) : Int) rk ln bo))))))))) :
    SW G (j + 4) mX9_readsLetter 0 [some (vr (49)), some (vi ((-1))), none] [] (S nw nx g, 78 + gn, (rm c (tkT nb n p) (tkF nb n p) (tkK nb n p) (vlS nb n p) false fk fp rk ln bo)) B0 post := by
  refine sw_aload_n (dX9_readsLetter_0.at 0 rfl) rfl rfl ?_
  refine sw_getIE (w := bz (false)) (dX9_readsLetter_0.at 1 rfl) fp_X9_131 (S_lt 49 (by decide)) (S_49 nw nx g) rfl rfl ?_
  refine sw_if_eq (tgt := 9) (dX9_readsLetter_0.at 2 rfl) (by decide) (by decide) (fun q => ?_) (fun q => ?_)
  · clear q
    refine sw_aload_n (dX9_readsLetter_0.at 5 rfl) rfl rfl ?_
    refine sw_getR (dX9_readsLetter_0.at 6 rfl) fp_X9_7 (S_lt 49 (by decide)) (S_49 nw nx g) rfl rfl ?_
    refine sw_aload_n (dX9_readsLetter_0.at 7 rfl) rfl rfl ?_
    refine sw_getIE (w := ((tkF nb n p : Nat) : Int)) (dX9_readsLetter_0.at 8 rfl) fp_X9_115 (S_lt 49 (by decide)) (S_49 nw nx g) rfl rfl ?_
    refine sw_sipush (dX9_readsLetter_0.at 9 rfl) (by decide) ?_
    refine sw_imin (dX9_readsLetter_0.at 10 rfl) lk_X9_125 (Nat.le_of_ble_eq_true rfl) (Nat.le_refl _) (Nat.le_refl _) (nrng hv.1) (by decide) ?_
    refine sw_topI (y := (((min (tkF nb n p) 299) : Nat) : Int)) (congrArg _ (min_if _ _)) ?_
    replace hv := hv.2
    refine sw_ialdN (min (tkF nb n p) 299) (w := ((nb (min (tkF nb n p) 299) : Nat) : Int)) (dX9_readsLetter_0.at 11 rfl) (S_lt 50 (by decide)) (S_50 nw nx g) (by decide) hv.1 (hT _ hv.1) ?_
    replace hv := hv.2
    refine sw_bipush (dX9_readsLetter_0.at 12 rfl) (by decide) ?_
    refine sw_isub (dX9_readsLetter_0.at 13 rfl) ?_
    refine sw_istore_n (lo' := [some (vr (49)), some (vi ((-1))), some (vi (((nb (min (tkF nb n p) 299) : Nat) : Int) - 97))]) (dX9_readsLetter_0.at 14 rfl) rfl (by decide) rfl ?_
    refine sw_aload_n (dX9_readsLetter_0.at 15 rfl) rfl rfl ?_
    refine sw_getIE (w := ((tkK nb n p : Nat) : Int)) (dX9_readsLetter_0.at 16 rfl) fp_X9_121 (S_lt 49 (by decide)) (S_49 nw nx g) rfl rfl ?_
    refine sw_iconst (dX9_readsLetter_0.at 17 rfl) ?_
    refine sw_icmpN_ne (tkK nb n p) 1 (tgt := 49) (dX9_readsLetter_0.at 18 rfl) (by decide) hv.1 (by decide) (fun q => ?_) (fun q => ?_)
    · replace hv := hv.2.1 q
      refine sw_aload_n (dX9_readsLetter_0.at 26 rfl) rfl rfl ?_
      refine sw_iconst (dX9_readsLetter_0.at 27 rfl) ?_
      refine sw_callV (B' := B0) (As := [vi (1)]) (mc := 0) (ms := 0) (dX9_readsLetter_0.at 28 rfl) lk_X9_151 (S_lt 49 (by decide)) (S_49 nw nx g) rfl rfl (Nat.le_of_ble_eq_true rfl) rfl (Nat.le_refl _) (Nat.le_refl _) ?_
      refine c_X9_faults_f (w := 1) (j := j + 3) hS hn hB hT ?_
      refine sw_goto (tgt := 94) (dX9_readsLetter_0.at 29 rfl) (by decide) ?_
      refine sw_aload_n (dX9_readsLetter_1.at 3 rfl) rfl rfl ?_
      refine sw_iconst (dX9_readsLetter_1.at 4 rfl) ?_
      refine sw_callV (B' := B0) (As := [vi (1)]) (mc := 0) (ms := 0) (dX9_readsLetter_1.at 5 rfl) lk_X9_155 (S_lt 49 (by decide)) (S_49 nw nx g) rfl rfl (Nat.le_of_ble_eq_true rfl) rfl (Nat.le_refl _) (Nat.le_refl _) ?_
      refine c_X9_passes_t1 (j := j + 0) hS hn hB hT ?_
      refine sw_aload_n (dX9_readsLetter_1.at 6 rfl) rfl rfl ?_
      refine sw_getIE (w := bz (true)) (dX9_readsLetter_1.at 7 rfl) fp_X9_131 (S_lt 49 (by decide)) (S_49 nw nx g) rfl rfl ?_
      refine sw_if_eq (tgt := 110) (dX9_readsLetter_1.at 8 rfl) (by decide) (by decide) (fun q => ?_) (fun q => ?_)
      · exact absurd q (by decide)
      · clear q
        refine sw_iconst (dX9_readsLetter_1.at 9 rfl) ?_
        refine sw_goto (tgt := 111) (dX9_readsLetter_1.at 10 rfl) (by decide) ?_
        exact sw_iret (dX9_readsLetter_1.at 12 rfl) rfl (Nat.le_refl _) (Nat.le_refl _) hv
    · replace hv := hv.2.2 q
      refine sw_aload_n (dX9_readsLetter_0.at 19 rfl) rfl rfl ?_
      refine sw_getIE (w := ((tkT nb n p : Nat) : Int)) (dX9_readsLetter_0.at 20 rfl) fp_X9_108 (S_lt 49 (by decide)) (S_49 nw nx g) rfl rfl ?_
      refine sw_aload_n (dX9_readsLetter_0.at 21 rfl) rfl rfl ?_
      refine sw_getIE (w := ((tkF nb n p : Nat) : Int)) (dX9_readsLetter_0.at 22 rfl) fp_X9_115 (S_lt 49 (by decide)) (S_49 nw nx g) rfl rfl ?_
      refine sw_isub (dX9_readsLetter_0.at 23 rfl) ?_
      refine sw_iconst (dX9_readsLetter_0.at 24 rfl) ?_
      refine sw_icmp_eq (tgt := 57) (dX9_readsLetter_0.at 25 rfl) (by decide) hv.1 (by decide) (fun q => ?_) (fun q => ?_)
      · replace hv := hv.2.1 q
        exact hv
      · replace hv := hv.2.2 q
        refine sw_aload_n (dX9_readsLetter_0.at 26 rfl) rfl rfl ?_
        refine sw_iconst (dX9_readsLetter_0.at 27 rfl) ?_
        refine sw_callV (B' := B0) (As := [vi (1)]) (mc := 0) (ms := 0) (dX9_readsLetter_0.at 28 rfl) lk_X9_151 (S_lt 49 (by decide)) (S_49 nw nx g) rfl rfl (Nat.le_of_ble_eq_true rfl) rfl (Nat.le_refl _) (Nat.le_refl _) ?_
        refine c_X9_faults_f (w := 1) (j := j + 3) hS hn hB hT ?_
        refine sw_goto (tgt := 94) (dX9_readsLetter_0.at 29 rfl) (by decide) ?_
        refine sw_aload_n (dX9_readsLetter_1.at 3 rfl) rfl rfl ?_
        refine sw_iconst (dX9_readsLetter_1.at 4 rfl) ?_
        refine sw_callV (B' := B0) (As := [vi (1)]) (mc := 0) (ms := 0) (dX9_readsLetter_1.at 5 rfl) lk_X9_155 (S_lt 49 (by decide)) (S_49 nw nx g) rfl rfl (Nat.le_of_ble_eq_true rfl) rfl (Nat.le_refl _) (Nat.le_refl _) ?_
        refine c_X9_passes_t1 (j := j + 0) hS hn hB hT ?_
        refine sw_aload_n (dX9_readsLetter_1.at 6 rfl) rfl rfl ?_
        refine sw_getIE (w := bz (true)) (dX9_readsLetter_1.at 7 rfl) fp_X9_131 (S_lt 49 (by decide)) (S_49 nw nx g) rfl rfl ?_
        refine sw_if_eq (tgt := 110) (dX9_readsLetter_1.at 8 rfl) (by decide) (by decide) (fun q => ?_) (fun q => ?_)
        · exact absurd q (by decide)
        · clear q
          refine sw_iconst (dX9_readsLetter_1.at 9 rfl) ?_
          refine sw_goto (tgt := 111) (dX9_readsLetter_1.at 10 rfl) (by decide) ?_
          exact sw_iret (dX9_readsLetter_1.at 12 rfl) rfl (Nat.le_refl _) (Nat.le_refl _) hv
  · exact absurd q (by decide)

set_option maxHeartbeats 8000000 in
theorem c_X9_readsLetter_m {G : GG} {j nw nx gn : Nat} {g : Nat → Sh} {c : Nat → Nat → Int} {post : Option AV → AM → Prop} {nb : Nat → Nat} {n : Nat} {p : Nat} {fk : Nat} {fp : Int} {rk : Nat} {ln : Nat} {bo : Nat → Nat} (hS : c 49 1 = ((n : Nat) : Int)) (hn : n ≤ 300) (hB : ∀ i, nb i < 256) (hT : ∀ i, i < 300 → c 50 i = ((nb i : Nat) : Int)) (hp : p ≤ n) (p1 : rk ≤ 5) (K1 : ltP nb n p rk = 0 → post (some (vi ((ltV nb n p : Nat) : Int))) (S nw nx g, 78 + gn, (rm c (tkT nb n (tkT nb n p)) (tkF nb n (tkT nb n p)) (tkK nb n (tkT nb n p)) (vlS nb n (tkT nb n p)) false fk fp rk ln bo))) (K2 : ltP nb n p rk = 1 → post (some (vi 0)) (S nw nx g, 78 + gn, (rm c (tkT nb n p) (tkF nb n p) (tkK nb n p) (vlS nb n p) true 1 ((tkF nb n p : Nat) : Int) rk ln bo))) (K3 : ltP nb n p rk = 2 → post (some (vi 0)) (S nw nx g, 78 + gn, (rm c (tkT nb n p) (tkF nb n p) (tkK nb n p) (vlS nb n p) true 2 ((tkF nb n p : Nat) : Int) rk ln bo))) : SM G (j + 5) mX9_readsLetter [vr (49), vi ((-1))] (S nw nx g, 78 + gn, (rm c (tkT nb n p) (tkF nb n p) (tkK nb n p) (vlS nb n p) false fk fp rk ln bo)) 0 0 post := by
  refine sm_of wX9_readsLetter rfl (Nat.le_of_ble_eq_true rfl) ?_
  have h1 := tkT_le (nb := nb) hp
  have h2 := tkF_le (nb := nb) hp
  have h3 := tkK_le (nb := nb) (n := n) (p := p)
  have h9 := hB (min (tkF nb n p) 299)
  have e0 : ltV nb n p = nb (tkF nb n p) - 97 := rfl
  by_cases hc : tkK nb n p = 1 ∧ tkT nb n p = tkF nb n p + 1
  · have h4 := tk_let hc.1 (tkF nb n p) (Nat.le_refl _) (by omega)
    have em : min (tkF nb n p) 299 = tkF nb n p := Nat.min_eq_left (by omega)
    rw [e0] at K1
    refine g_X9_readsLetter_m hS hn hB hT ?_
    rw [em]
    by_cases hd : rk ≤ ltV nb n p
    · have eL : ltP nb n p rk = 2 := by rw [ltP, if_neg (not_not_intro hc), if_pos hd]
      rw [e0] at hd
      refine ⟨?_, ⟨?_, ⟨?_, ⟨?_, ⟨fun q => ?_, fun q => ⟨?_, ⟨?_, ⟨fun q => ⟨?_, ?_, ⟨fun q => ?_, fun q => ⟨?_, ⟨fun q => ?_, fun q => ⟨?_, ?_⟩⟩⟩⟩⟩, fun q => ?_⟩⟩⟩⟩⟩⟩⟩⟩
      all_goals first | omega | exact K3 eL | (exfalso; omega)
    · have eL : ltP nb n p rk = 0 := by rw [ltP, if_neg (not_not_intro hc), if_neg hd]
      rw [e0] at hd
      refine ⟨?_, ⟨?_, ⟨?_, ⟨?_, ⟨fun q => ?_, fun q => ⟨?_, ⟨?_, ⟨fun q => ⟨?_, ?_, ⟨fun q => ?_, fun q => ⟨?_, ⟨fun q => ?_, fun q => ⟨?_, ?_⟩⟩⟩⟩⟩, fun q => ?_⟩⟩⟩⟩⟩⟩⟩⟩
      all_goals first | omega | exact K1 eL | (exfalso; omega)
  · have eL : ltP nb n p rk = 1 := by rw [ltP, if_pos hc]
    refine g_X9_readsLetter_mi hS hn hB hT ?_
    refine ⟨?_, ⟨?_, ⟨?_, ⟨fun q => ?_, fun q => ⟨?_, ⟨fun q => ?_, fun q => ?_⟩⟩⟩⟩⟩⟩
    all_goals first | omega | exact K2 eL | (exfalso; omega)

set_option maxHeartbeats 2000000 in
set_option maxRecDepth 20000 in
theorem g_X9_readsLetter_n {G : GG} {j nw nx gn : Nat} {g : Nat → Sh} {c : Nat → Nat → Int} {post : Option AV → AM → Prop} {a : Nat} {nb : Nat → Nat} {n : Nat} {p : Nat} {fk : Nat} {fp : Int} {rk : Nat} {ln : Nat} {bo : Nat → Nat} (hS : c 49 1 = ((n : Nat) : Int)) (hn : n ≤ 300) (hB : ∀ i, nb i < 256) (hT : ∀ i, i < 300 → c 50 i = ((nb i : Nat) : Int))  (hv : (tkF nb n p < 2147483648) ∧ (((min (tkF nb n p) 299) < 300) ∧ ((97 ≤ nb (min (tkF nb n p) 299)) ∧ ((tkK nb n p < 2147483648) ∧ (((tkK nb n p ≠ 1) → post (some (vi (0))) (S nw nx g, 78 + gn, (rm c (tkT nb n p) (tkF nb n p) (tkK nb n p) (vlS nb n p) true 1 ((tkF nb n p : Nat) : Int) rk ln bo))) ∧ ((tkK nb n p = 1) → (tkF nb n p ≤ tkT nb n p) ∧ (((tkT nb n p) - (tkF nb n p) < 2147483648) ∧ ((((tkT nb n p) - (tkF nb n p) = 1) → ((nb (min (tkF nb n p) 299)) - 97 < 2147483648) ∧ (rk < 2147483648) ∧ (((rk ≤ (nb (min (tkF nb n p) 299)) - 97) → post (some (vi (0))) (S nw nx g, 78 + gn, (rm c (tkT nb n p) (tkF nb n p) (tkK nb n p) (vlS nb n p) true 2 ((tkF nb n p : Nat) : Int) rk ln bo))) ∧ ((¬ (rk ≤ (nb (min (tkF nb n p) 299)) - 97)) → ((nb (min (tkF nb n p) 299)) - 97 < 2147483648) ∧ (a < 2147483648) ∧ ((((nb (min (tkF nb n p) 299)) - 97 = a) → post (some (vi (0))) (S nw nx g, 78 + gn, (rm c (tkT nb n p) (tkF nb n p) (tkK nb n p) (vlS nb n p) true 2 ((tkF nb n p : Nat) : Int) rk ln bo))) ∧ ((¬ ((nb (min (tkF nb n p) 299)) - 97 = a)) → (a < 2147483648) ∧ (((((a : Nat) : Int) = (-1)) → (p ≤ n) ∧ (post (some (vi ((((nb (min (tkF nb n p) 299)) - 97 : Nat) : Int)))) (S nw nx g, 78 + gn, (rm c (tkT nb n (tkT nb n p)) (tkF nb n (tkT nb n p)) (tkK nb n (tkT nb n p)) (vlS nb n (tkT nb n p)) false fk fp rk ln bo)))) ∧ ((¬ (((a : Nat) : Int) = (-1))) → ((5 * a) + ((nb (min (tkF nb n p) 299)) - 97) < 25) ∧ ((bo ((5 * a) + ((nb (min (tkF nb n p) 299)) - 97)) < 2147483648) ∧ (((bo ((5 * a) + ((nb (min (tkF nb n p) 299)) - 97)) ≤ 2) → (p ≤ n) ∧ (post (some (vi ((((nb (min (tkF nb n p) 299)) - 97 : Nat) : Int)))) (S nw nx g, 78 + gn, (rm c (tkT nb n (tkT nb n p)) (tkF nb n (tkT nb n p)) (tkK nb n (tkT nb n p)) (vlS nb n (tkT nb n p)) false fk fp rk ln bo)))) ∧ ((¬ (bo ((5 * a) + ((nb (min (tkF nb n p) 299)) - 97)) ≤ 2)) → post (some (vi (0))) (S nw nx g, 78 + gn, (rm c (tkT nb n p) (tkF nb n p) (tkK nb n p) (vlS nb n p) true 2 ((tkF nb n p : Nat) : Int) rk ln bo)))))))))))) ∧ ((¬ ((tkT nb n p) - (tkF nb n p) = 1)) → post (some (vi (0))) (S nw nx g, 78 + gn, (rm c (tkT nb n p) (tkF nb n p) (tkK nb n p) (vlS nb n p) true 1 ((tkF nb n p : Nat) : Int) rk ln bo))))))))))) :
    SW G (j + 4) mX9_readsLetter 0 [some (vr (49)), some (vi (((a : Nat) : Int))), none] [] (S nw nx g, 78 + gn, (rm c (tkT nb n p) (tkF nb n p) (tkK nb n p) (vlS nb n p) false fk fp rk ln bo)) B0 post := by
  refine sw_aload_n (dX9_readsLetter_0.at 0 rfl) rfl rfl ?_
  refine sw_getIE (w := bz (false)) (dX9_readsLetter_0.at 1 rfl) fp_X9_131 (S_lt 49 (by decide)) (S_49 nw nx g) rfl rfl ?_
  refine sw_if_eq (tgt := 9) (dX9_readsLetter_0.at 2 rfl) (by decide) (by decide) (fun q => ?_) (fun q => ?_)
  · clear q
    refine sw_aload_n (dX9_readsLetter_0.at 5 rfl) rfl rfl ?_
    refine sw_getR (dX9_readsLetter_0.at 6 rfl) fp_X9_7 (S_lt 49 (by decide)) (S_49 nw nx g) rfl rfl ?_
    refine sw_aload_n (dX9_readsLetter_0.at 7 rfl) rfl rfl ?_
    refine sw_getIE (w := ((tkF nb n p : Nat) : Int)) (dX9_readsLetter_0.at 8 rfl) fp_X9_115 (S_lt 49 (by decide)) (S_49 nw nx g) rfl rfl ?_
    refine sw_sipush (dX9_readsLetter_0.at 9 rfl) (by decide) ?_
    refine sw_imin (dX9_readsLetter_0.at 10 rfl) lk_X9_125 (Nat.le_of_ble_eq_true rfl) (Nat.le_refl _) (Nat.le_refl _) (nrng hv.1) (by decide) ?_
    refine sw_topI (y := (((min (tkF nb n p) 299) : Nat) : Int)) (congrArg _ (min_if _ _)) ?_
    replace hv := hv.2
    refine sw_ialdN (min (tkF nb n p) 299) (w := ((nb (min (tkF nb n p) 299) : Nat) : Int)) (dX9_readsLetter_0.at 11 rfl) (S_lt 50 (by decide)) (S_50 nw nx g) (by decide) hv.1 (hT _ hv.1) ?_
    replace hv := hv.2
    refine sw_bipush (dX9_readsLetter_0.at 12 rfl) (by decide) ?_
    refine sw_isub (dX9_readsLetter_0.at 13 rfl) ?_
    refine sw_topI (y := (((nb (min (tkF nb n p) 299)) - 97 : Nat) : Int)) (congrArg _ (Int.ofNat_sub hv.1).symm) ?_
    replace hv := hv.2
    refine sw_istore_n (lo' := [some (vr (49)), some (vi (((a : Nat) : Int))), some (vi ((((nb (min (tkF nb n p) 299)) - 97 : Nat) : Int)))]) (dX9_readsLetter_0.at 14 rfl) rfl (by decide) rfl ?_
    refine sw_aload_n (dX9_readsLetter_0.at 15 rfl) rfl rfl ?_
    refine sw_getIE (w := ((tkK nb n p : Nat) : Int)) (dX9_readsLetter_0.at 16 rfl) fp_X9_121 (S_lt 49 (by decide)) (S_49 nw nx g) rfl rfl ?_
    refine sw_iconst (dX9_readsLetter_0.at 17 rfl) ?_
    refine sw_icmpN_ne (tkK nb n p) 1 (tgt := 49) (dX9_readsLetter_0.at 18 rfl) (by decide) hv.1 (by decide) (fun q => ?_) (fun q => ?_)
    · replace hv := hv.2.1 q
      refine sw_aload_n (dX9_readsLetter_0.at 26 rfl) rfl rfl ?_
      refine sw_iconst (dX9_readsLetter_0.at 27 rfl) ?_
      refine sw_callV (B' := B0) (As := [vi (1)]) (mc := 0) (ms := 0) (dX9_readsLetter_0.at 28 rfl) lk_X9_151 (S_lt 49 (by decide)) (S_49 nw nx g) rfl rfl (Nat.le_of_ble_eq_true rfl) rfl (Nat.le_refl _) (Nat.le_refl _) ?_
      refine c_X9_faults_f (w := 1) (j := j + 3) hS hn hB hT ?_
      refine sw_goto (tgt := 94) (dX9_readsLetter_0.at 29 rfl) (by decide) ?_
      refine sw_aload_n (dX9_readsLetter_1.at 3 rfl) rfl rfl ?_
      refine sw_iconst (dX9_readsLetter_1.at 4 rfl) ?_
      refine sw_callV (B' := B0) (As := [vi (1)]) (mc := 0) (ms := 0) (dX9_readsLetter_1.at 5 rfl) lk_X9_155 (S_lt 49 (by decide)) (S_49 nw nx g) rfl rfl (Nat.le_of_ble_eq_true rfl) rfl (Nat.le_refl _) (Nat.le_refl _) ?_
      refine c_X9_passes_t1 (j := j + 0) hS hn hB hT ?_
      refine sw_aload_n (dX9_readsLetter_1.at 6 rfl) rfl rfl ?_
      refine sw_getIE (w := bz (true)) (dX9_readsLetter_1.at 7 rfl) fp_X9_131 (S_lt 49 (by decide)) (S_49 nw nx g) rfl rfl ?_
      refine sw_if_eq (tgt := 110) (dX9_readsLetter_1.at 8 rfl) (by decide) (by decide) (fun q => ?_) (fun q => ?_)
      · exact absurd q (by decide)
      · clear q
        refine sw_iconst (dX9_readsLetter_1.at 9 rfl) ?_
        refine sw_goto (tgt := 111) (dX9_readsLetter_1.at 10 rfl) (by decide) ?_
        exact sw_iret (dX9_readsLetter_1.at 12 rfl) rfl (Nat.le_refl _) (Nat.le_refl _) hv
    · replace hv := hv.2.2 q
      refine sw_aload_n (dX9_readsLetter_0.at 19 rfl) rfl rfl ?_
      refine sw_getIE (w := ((tkT nb n p : Nat) : Int)) (dX9_readsLetter_0.at 20 rfl) fp_X9_108 (S_lt 49 (by decide)) (S_49 nw nx g) rfl rfl ?_
      refine sw_aload_n (dX9_readsLetter_0.at 21 rfl) rfl rfl ?_
      refine sw_getIE (w := ((tkF nb n p : Nat) : Int)) (dX9_readsLetter_0.at 22 rfl) fp_X9_115 (S_lt 49 (by decide)) (S_49 nw nx g) rfl rfl ?_
      refine sw_isub (dX9_readsLetter_0.at 23 rfl) ?_
      refine sw_topI (y := (((tkT nb n p) - (tkF nb n p) : Nat) : Int)) (congrArg _ (Int.ofNat_sub hv.1).symm) ?_
      replace hv := hv.2
      refine sw_iconst (dX9_readsLetter_0.at 24 rfl) ?_
      refine sw_icmpN_eq ((tkT nb n p) - (tkF nb n p)) 1 (tgt := 57) (dX9_readsLetter_0.at 25 rfl) (by decide) hv.1 (by decide) (fun q => ?_) (fun q => ?_)
      · replace hv := hv.2.1 q
        refine sw_iload_n (dX9_readsLetter_0.at 30 rfl) rfl rfl ?_
        refine sw_aload_n (dX9_readsLetter_0.at 31 rfl) rfl rfl ?_
        refine sw_getIE (w := ((rk : Nat) : Int)) (dX9_readsLetter_0.at 32 rfl) fp_X9_159 (S_lt 49 (by decide)) (S_49 nw nx g) rfl rfl ?_
        refine sw_icmpN_ge ((nb (min (tkF nb n p) 299)) - 97) rk (tgt := 89) (dX9_readsLetter_0.at 33 rfl) (by decide) hv.1 hv.2.1 (fun q => ?_) (fun q => ?_)
        · replace hv := hv.2.2.1 q
          refine sw_aload_n (dX9_readsLetter_1.at 0 rfl) rfl rfl ?_
          refine sw_iconst (dX9_readsLetter_1.at 1 rfl) ?_
          refine sw_callV (B' := B0) (As := [vi (2)]) (mc := 0) (ms := 0) (dX9_readsLetter_1.at 2 rfl) lk_X9_151 (S_lt 49 (by decide)) (S_49 nw nx g) rfl rfl (Nat.le_of_ble_eq_true rfl) rfl (Nat.le_refl _) (Nat.le_refl _) ?_
          refine c_X9_faults_f (w := 2) (j := j + 3) hS hn hB hT ?_
          refine sw_aload_n (dX9_readsLetter_1.at 3 rfl) rfl rfl ?_
          refine sw_iconst (dX9_readsLetter_1.at 4 rfl) ?_
          refine sw_callV (B' := B0) (As := [vi (1)]) (mc := 0) (ms := 0) (dX9_readsLetter_1.at 5 rfl) lk_X9_155 (S_lt 49 (by decide)) (S_49 nw nx g) rfl rfl (Nat.le_of_ble_eq_true rfl) rfl (Nat.le_refl _) (Nat.le_refl _) ?_
          refine c_X9_passes_t1 (j := j + 0) hS hn hB hT ?_
          refine sw_aload_n (dX9_readsLetter_1.at 6 rfl) rfl rfl ?_
          refine sw_getIE (w := bz (true)) (dX9_readsLetter_1.at 7 rfl) fp_X9_131 (S_lt 49 (by decide)) (S_49 nw nx g) rfl rfl ?_
          refine sw_if_eq (tgt := 110) (dX9_readsLetter_1.at 8 rfl) (by decide) (by decide) (fun q => ?_) (fun q => ?_)
          · exact absurd q (by decide)
          · clear q
            refine sw_iconst (dX9_readsLetter_1.at 9 rfl) ?_
            refine sw_goto (tgt := 111) (dX9_readsLetter_1.at 10 rfl) (by decide) ?_
            exact sw_iret (dX9_readsLetter_1.at 12 rfl) rfl (Nat.le_refl _) (Nat.le_refl _) hv
        · replace hv := hv.2.2.2 q
          refine sw_iload_n (dX9_readsLetter_0.at 34 rfl) rfl rfl ?_
          refine sw_iload_n (dX9_readsLetter_0.at 35 rfl) rfl rfl ?_
          refine sw_icmpN_eq ((nb (min (tkF nb n p) 299)) - 97) a (tgt := 89) (dX9_readsLetter_0.at 36 rfl) (by decide) hv.1 hv.2.1 (fun q => ?_) (fun q => ?_)
          · replace hv := hv.2.2.1 q
            refine sw_aload_n (dX9_readsLetter_1.at 0 rfl) rfl rfl ?_
            refine sw_iconst (dX9_readsLetter_1.at 1 rfl) ?_
            refine sw_callV (B' := B0) (As := [vi (2)]) (mc := 0) (ms := 0) (dX9_readsLetter_1.at 2 rfl) lk_X9_151 (S_lt 49 (by decide)) (S_49 nw nx g) rfl rfl (Nat.le_of_ble_eq_true rfl) rfl (Nat.le_refl _) (Nat.le_refl _) ?_
            refine c_X9_faults_f (w := 2) (j := j + 3) hS hn hB hT ?_
            refine sw_aload_n (dX9_readsLetter_1.at 3 rfl) rfl rfl ?_
            refine sw_iconst (dX9_readsLetter_1.at 4 rfl) ?_
            refine sw_callV (B' := B0) (As := [vi (1)]) (mc := 0) (ms := 0) (dX9_readsLetter_1.at 5 rfl) lk_X9_155 (S_lt 49 (by decide)) (S_49 nw nx g) rfl rfl (Nat.le_of_ble_eq_true rfl) rfl (Nat.le_refl _) (Nat.le_refl _) ?_
            refine c_X9_passes_t1 (j := j + 0) hS hn hB hT ?_
            refine sw_aload_n (dX9_readsLetter_1.at 6 rfl) rfl rfl ?_
            refine sw_getIE (w := bz (true)) (dX9_readsLetter_1.at 7 rfl) fp_X9_131 (S_lt 49 (by decide)) (S_49 nw nx g) rfl rfl ?_
            refine sw_if_eq (tgt := 110) (dX9_readsLetter_1.at 8 rfl) (by decide) (by decide) (fun q => ?_) (fun q => ?_)
            · exact absurd q (by decide)
            · clear q
              refine sw_iconst (dX9_readsLetter_1.at 9 rfl) ?_
              refine sw_goto (tgt := 111) (dX9_readsLetter_1.at 10 rfl) (by decide) ?_
              exact sw_iret (dX9_readsLetter_1.at 12 rfl) rfl (Nat.le_refl _) (Nat.le_refl _) hv
          · replace hv := hv.2.2.2 q
            refine sw_iload_n (dX9_readsLetter_0.at 37 rfl) rfl rfl ?_
            refine sw_iconst (dX9_readsLetter_0.at 38 rfl) ?_
            refine sw_icmp_eq (tgt := 94) (dX9_readsLetter_0.at 39 rfl) (by decide) (nrng hv.1) (by decide) (fun q => ?_) (fun q => ?_)
            · replace hv := hv.2.1 q
              refine sw_aload_n (dX9_readsLetter_1.at 3 rfl) rfl rfl ?_
              refine sw_iconst (dX9_readsLetter_1.at 4 rfl) ?_
              refine sw_callV (B' := B0) (As := [vi (1)]) (mc := 0) (ms := 0) (dX9_readsLetter_1.at 5 rfl) lk_X9_155 (S_lt 49 (by decide)) (S_49 nw nx g) rfl rfl (Nat.le_of_ble_eq_true rfl) rfl (Nat.le_refl _) (Nat.le_refl _) ?_
              refine c_X9_passes_f1 (j := j + 0) hS hn hB hT hv.1 ?_
              replace hv := hv.2
              refine sw_aload_n (dX9_readsLetter_1.at 6 rfl) rfl rfl ?_
              refine sw_getIE (w := bz (false)) (dX9_readsLetter_1.at 7 rfl) fp_X9_131 (S_lt 49 (by decide)) (S_49 nw nx g) rfl rfl ?_
              refine sw_if_eq (tgt := 110) (dX9_readsLetter_1.at 8 rfl) (by decide) (by decide) (fun q => ?_) (fun q => ?_)
              · clear q
                refine sw_iload_n (dX9_readsLetter_1.at 11 rfl) rfl rfl ?_
                exact sw_iret (dX9_readsLetter_1.at 12 rfl) rfl (Nat.le_refl _) (Nat.le_refl _) hv
              · exact absurd q (by decide)
            · replace hv := hv.2.2 q
              refine sw_aload_n (dX9_readsLetter_0.at 40 rfl) rfl rfl ?_
              refine sw_getR (dX9_readsLetter_0.at 41 rfl) fp_X9_17 (S_lt 49 (by decide)) (S_49 nw nx g) rfl rfl ?_
              refine sw_iconst (dX9_readsLetter_0.at 42 rfl) ?_
              refine sw_iload_n (dX9_readsLetter_0.at 43 rfl) rfl rfl ?_
              refine sw_imul (dX9_readsLetter_0.at 44 rfl) ?_
              refine sw_topI (y := ((5 * a : Nat) : Int)) (by first | rfl | (congr 1)) ?_
              refine sw_iload_n (dX9_readsLetter_0.at 45 rfl) rfl rfl ?_
              refine sw_iadd (dX9_readsLetter_0.at 46 rfl) ?_
              refine sw_topI (y := (((5 * a) + ((nb (min (tkF nb n p) 299)) - 97) : Nat) : Int)) (by first | rfl | (congr 1)) ?_
              refine sw_ialdN ((5 * a) + ((nb (min (tkF nb n p) 299)) - 97)) (w := ((bo ((5 * a) + ((nb (min (tkF nb n p) 299)) - 97)) : Nat) : Int)) (dX9_readsLetter_0.at 47 rfl) (S_lt 51 (by decide)) (S_51 nw nx g) (by decide) hv.1 (rm_r51 c (tkT nb n p) (tkF nb n p) (tkK nb n p) (vlS nb n p) false fk fp rk ln bo hv.1) ?_
              replace hv := hv.2
              refine sw_iconst (dX9_readsLetter_0.at 48 rfl) ?_
              refine sw_icmpN_le (bo ((5 * a) + ((nb (min (tkF nb n p) 299)) - 97))) 2 (tgt := 94) (dX9_readsLetter_0.at 49 rfl) (by decide) hv.1 (by decide) (fun q => ?_) (fun q => ?_)
              · replace hv := hv.2.1 q
                refine sw_aload_n (dX9_readsLetter_1.at 3 rfl) rfl rfl ?_
                refine sw_iconst (dX9_readsLetter_1.at 4 rfl) ?_
                refine sw_callV (B' := B0) (As := [vi (1)]) (mc := 0) (ms := 0) (dX9_readsLetter_1.at 5 rfl) lk_X9_155 (S_lt 49 (by decide)) (S_49 nw nx g) rfl rfl (Nat.le_of_ble_eq_true rfl) rfl (Nat.le_refl _) (Nat.le_refl _) ?_
                refine c_X9_passes_f1 (j := j + 0) hS hn hB hT hv.1 ?_
                replace hv := hv.2
                refine sw_aload_n (dX9_readsLetter_1.at 6 rfl) rfl rfl ?_
                refine sw_getIE (w := bz (false)) (dX9_readsLetter_1.at 7 rfl) fp_X9_131 (S_lt 49 (by decide)) (S_49 nw nx g) rfl rfl ?_
                refine sw_if_eq (tgt := 110) (dX9_readsLetter_1.at 8 rfl) (by decide) (by decide) (fun q => ?_) (fun q => ?_)
                · clear q
                  refine sw_iload_n (dX9_readsLetter_1.at 11 rfl) rfl rfl ?_
                  exact sw_iret (dX9_readsLetter_1.at 12 rfl) rfl (Nat.le_refl _) (Nat.le_refl _) hv
                · exact absurd q (by decide)
              · replace hv := hv.2.2 q
                refine sw_aload_n (dX9_readsLetter_1.at 0 rfl) rfl rfl ?_
                refine sw_iconst (dX9_readsLetter_1.at 1 rfl) ?_
                refine sw_callV (B' := B0) (As := [vi (2)]) (mc := 0) (ms := 0) (dX9_readsLetter_1.at 2 rfl) lk_X9_151 (S_lt 49 (by decide)) (S_49 nw nx g) rfl rfl (Nat.le_of_ble_eq_true rfl) rfl (Nat.le_refl _) (Nat.le_refl _) ?_
                refine c_X9_faults_f (w := 2) (j := j + 3) hS hn hB hT ?_
                refine sw_aload_n (dX9_readsLetter_1.at 3 rfl) rfl rfl ?_
                refine sw_iconst (dX9_readsLetter_1.at 4 rfl) ?_
                refine sw_callV (B' := B0) (As := [vi (1)]) (mc := 0) (ms := 0) (dX9_readsLetter_1.at 5 rfl) lk_X9_155 (S_lt 49 (by decide)) (S_49 nw nx g) rfl rfl (Nat.le_of_ble_eq_true rfl) rfl (Nat.le_refl _) (Nat.le_refl _) ?_
                refine c_X9_passes_t1 (j := j + 0) hS hn hB hT ?_
                refine sw_aload_n (dX9_readsLetter_1.at 6 rfl) rfl rfl ?_
                refine sw_getIE (w := bz (true)) (dX9_readsLetter_1.at 7 rfl) fp_X9_131 (S_lt 49 (by decide)) (S_49 nw nx g) rfl rfl ?_
                refine sw_if_eq (tgt := 110) (dX9_readsLetter_1.at 8 rfl) (by decide) (by decide) (fun q => ?_) (fun q => ?_)
                · exact absurd q (by decide)
                · clear q
                  refine sw_iconst (dX9_readsLetter_1.at 9 rfl) ?_
                  refine sw_goto (tgt := 111) (dX9_readsLetter_1.at 10 rfl) (by decide) ?_
                  exact sw_iret (dX9_readsLetter_1.at 12 rfl) rfl (Nat.le_refl _) (Nat.le_refl _) hv
      · replace hv := hv.2.2 q
        refine sw_aload_n (dX9_readsLetter_0.at 26 rfl) rfl rfl ?_
        refine sw_iconst (dX9_readsLetter_0.at 27 rfl) ?_
        refine sw_callV (B' := B0) (As := [vi (1)]) (mc := 0) (ms := 0) (dX9_readsLetter_0.at 28 rfl) lk_X9_151 (S_lt 49 (by decide)) (S_49 nw nx g) rfl rfl (Nat.le_of_ble_eq_true rfl) rfl (Nat.le_refl _) (Nat.le_refl _) ?_
        refine c_X9_faults_f (w := 1) (j := j + 3) hS hn hB hT ?_
        refine sw_goto (tgt := 94) (dX9_readsLetter_0.at 29 rfl) (by decide) ?_
        refine sw_aload_n (dX9_readsLetter_1.at 3 rfl) rfl rfl ?_
        refine sw_iconst (dX9_readsLetter_1.at 4 rfl) ?_
        refine sw_callV (B' := B0) (As := [vi (1)]) (mc := 0) (ms := 0) (dX9_readsLetter_1.at 5 rfl) lk_X9_155 (S_lt 49 (by decide)) (S_49 nw nx g) rfl rfl (Nat.le_of_ble_eq_true rfl) rfl (Nat.le_refl _) (Nat.le_refl _) ?_
        refine c_X9_passes_t1 (j := j + 0) hS hn hB hT ?_
        refine sw_aload_n (dX9_readsLetter_1.at 6 rfl) rfl rfl ?_
        refine sw_getIE (w := bz (true)) (dX9_readsLetter_1.at 7 rfl) fp_X9_131 (S_lt 49 (by decide)) (S_49 nw nx g) rfl rfl ?_
        refine sw_if_eq (tgt := 110) (dX9_readsLetter_1.at 8 rfl) (by decide) (by decide) (fun q => ?_) (fun q => ?_)
        · exact absurd q (by decide)
        · clear q
          refine sw_iconst (dX9_readsLetter_1.at 9 rfl) ?_
          refine sw_goto (tgt := 111) (dX9_readsLetter_1.at 10 rfl) (by decide) ?_
          exact sw_iret (dX9_readsLetter_1.at 12 rfl) rfl (Nat.le_refl _) (Nat.le_refl _) hv
  · exact absurd q (by decide)

set_option maxHeartbeats 2000000 in
set_option maxRecDepth 20000 in
theorem g_X9_readsLetter_ni {G : GG} {j nw nx gn : Nat} {g : Nat → Sh} {c : Nat → Nat → Int} {post : Option AV → AM → Prop} {a : Nat} {nb : Nat → Nat} {n : Nat} {p : Nat} {fk : Nat} {fp : Int} {rk : Nat} {ln : Nat} {bo : Nat → Nat} (hS : c 49 1 = ((n : Nat) : Int)) (hn : n ≤ 300) (hB : ∀ i, nb i < 256) (hT : ∀ i, i < 300 → c 50 i = ((nb i : Nat) : Int))  (hv : (tkF nb n p < 2147483648) ∧ (((min (tkF nb n p) 299) < 300) ∧ ((tkK nb n p < 2147483648) ∧ (((tkK nb n p ≠ 1) → post (some (vi (0))) (S nw nx g, 78 + gn, (rm c (tkT nb n p) (tkF nb n p) (tkK nb n p) (vlS nb n p) true 1 ((tkF nb n p : Nat) : Int) rk ln bo))) ∧ ((tkK nb n p = 1) → (-2147483648 ≤ ((tkT nb n p : Nat) : Int) - ((tkF nb n p : Nat) : Int) ∧ ((tkT nb n p : Nat) : Int) - ((tkF nb n p : Nat) : Int) < 2147483648) ∧ (((((tkT nb n p : Nat) : Int) - ((tkF nb n p : Nat) : Int) = 1) → SW G (j + 4) mX9_readsLetter 57 [some (vr (49)), some (vi (((a : Nat) : Int))), some (vi (((nb (min (tkF nb n p) 299) : Nat) : Int) - 97))] [] (S nw nx g, 78 + gn, (rm c (tkT nb n p) (tkF nb n p) (tkK nb n p) (vlS nb n p) false fk fp rk ln bo)) B0 post) ∧ ((¬ (((tkT nb n p : Nat) : Int) - ((tkF nb n p : Nat) : Int) = 1)) → post (some (vi (0))) (S nw nx g, 78 + gn, (rm c (tkT nb n p) (tkF nb n p) (tkK nb n p) (vlS nb n p) true 1 ((tkF nb n p : Nat) : Int) rk ln bo))))))))) :
    SW G (j + 4) mX9_readsLetter 0 [some (vr (49)), some (vi (((a : Nat) : Int))), none] [] (S nw nx g, 78 + gn, (rm c (tkT nb n p) (tkF nb n p) (tkK nb n p) (vlS nb n p) false fk fp rk ln bo)) B0 post := by
  refine sw_aload_n (dX9_readsLetter_0.at 0 rfl) rfl rfl ?_
  refine sw_getIE (w := bz (false)) (dX9_readsLetter_0.at 1 rfl) fp_X9_131 (S_lt 49 (by decide)) (S_49 nw nx g) rfl rfl ?_
  refine sw_if_eq (tgt := 9) (dX9_readsLetter_0.at 2 rfl) (by decide) (by decide) (fun q => ?_) (fun q => ?_)
  · clear q
    refine sw_aload_n (dX9_readsLetter_0.at 5 rfl) rfl rfl ?_
    refine sw_getR (dX9_readsLetter_0.at 6 rfl) fp_X9_7 (S_lt 49 (by decide)) (S_49 nw nx g) rfl rfl ?_
    refine sw_aload_n (dX9_readsLetter_0.at 7 rfl) rfl rfl ?_
    refine sw_getIE (w := ((tkF nb n p : Nat) : Int)) (dX9_readsLetter_0.at 8 rfl) fp_X9_115 (S_lt 49 (by decide)) (S_49 nw nx g) rfl rfl ?_
    refine sw_sipush (dX9_readsLetter_0.at 9 rfl) (by decide) ?_
    refine sw_imin (dX9_readsLetter_0.at 10 rfl) lk_X9_125 (Nat.le_of_ble_eq_true rfl) (Nat.le_refl _) (Nat.le_refl _) (nrng hv.1) (by decide) ?_
    refine sw_topI (y := (((min (tkF nb n p) 299) : Nat) : Int)) (congrArg _ (min_if _ _)) ?_
    replace hv := hv.2
    refine sw_ialdN (min (tkF nb n p) 299) (w := ((nb (min (tkF nb n p) 299) : Nat) : Int)) (dX9_readsLetter_0.at 11 rfl) (S_lt 50 (by decide)) (S_50 nw nx g) (by decide) hv.1 (hT _ hv.1) ?_
    replace hv := hv.2
    refine sw_bipush (dX9_readsLetter_0.at 12 rfl) (by decide) ?_
    refine sw_isub (dX9_readsLetter_0.at 13 rfl) ?_
    refine sw_istore_n (lo' := [some (vr (49)), some (vi (((a : Nat) : Int))), some (vi (((nb (min (tkF nb n p) 299) : Nat) : Int) - 97))]) (dX9_readsLetter_0.at 14 rfl) rfl (by decide) rfl ?_
    refine sw_aload_n (dX9_readsLetter_0.at 15 rfl) rfl rfl ?_
    refine sw_getIE (w := ((tkK nb n p : Nat) : Int)) (dX9_readsLetter_0.at 16 rfl) fp_X9_121 (S_lt 49 (by decide)) (S_49 nw nx g) rfl rfl ?_
    refine sw_iconst (dX9_readsLetter_0.at 17 rfl) ?_
    refine sw_icmpN_ne (tkK nb n p) 1 (tgt := 49) (dX9_readsLetter_0.at 18 rfl) (by decide) hv.1 (by decide) (fun q => ?_) (fun q => ?_)
    · replace hv := hv.2.1 q
      refine sw_aload_n (dX9_readsLetter_0.at 26 rfl) rfl rfl ?_
      refine sw_iconst (dX9_readsLetter_0.at 27 rfl) ?_
      refine sw_callV (B' := B0) (As := [vi (1)]) (mc := 0) (ms := 0) (dX9_readsLetter_0.at 28 rfl) lk_X9_151 (S_lt 49 (by decide)) (S_49 nw nx g) rfl rfl (Nat.le_of_ble_eq_true rfl) rfl (Nat.le_refl _) (Nat.le_refl _) ?_
      refine c_X9_faults_f (w := 1) (j := j + 3) hS hn hB hT ?_
      refine sw_goto (tgt := 94) (dX9_readsLetter_0.at 29 rfl) (by decide) ?_
      refine sw_aload_n (dX9_readsLetter_1.at 3 rfl) rfl rfl ?_
      refine sw_iconst (dX9_readsLetter_1.at 4 rfl) ?_
      refine sw_callV (B' := B0) (As := [vi (1)]) (mc := 0) (ms := 0) (dX9_readsLetter_1.at 5 rfl) lk_X9_155 (S_lt 49 (by decide)) (S_49 nw nx g) rfl rfl (Nat.le_of_ble_eq_true rfl) rfl (Nat.le_refl _) (Nat.le_refl _) ?_
      refine c_X9_passes_t1 (j := j + 0) hS hn hB hT ?_
      refine sw_aload_n (dX9_readsLetter_1.at 6 rfl) rfl rfl ?_
      refine sw_getIE (w := bz (true)) (dX9_readsLetter_1.at 7 rfl) fp_X9_131 (S_lt 49 (by decide)) (S_49 nw nx g) rfl rfl ?_
      refine sw_if_eq (tgt := 110) (dX9_readsLetter_1.at 8 rfl) (by decide) (by decide) (fun q => ?_) (fun q => ?_)
      · exact absurd q (by decide)
      · clear q
        refine sw_iconst (dX9_readsLetter_1.at 9 rfl) ?_
        refine sw_goto (tgt := 111) (dX9_readsLetter_1.at 10 rfl) (by decide) ?_
        exact sw_iret (dX9_readsLetter_1.at 12 rfl) rfl (Nat.le_refl _) (Nat.le_refl _) hv
    · replace hv := hv.2.2 q
      refine sw_aload_n (dX9_readsLetter_0.at 19 rfl) rfl rfl ?_
      refine sw_getIE (w := ((tkT nb n p : Nat) : Int)) (dX9_readsLetter_0.at 20 rfl) fp_X9_108 (S_lt 49 (by decide)) (S_49 nw nx g) rfl rfl ?_
      refine sw_aload_n (dX9_readsLetter_0.at 21 rfl) rfl rfl ?_
      refine sw_getIE (w := ((tkF nb n p : Nat) : Int)) (dX9_readsLetter_0.at 22 rfl) fp_X9_115 (S_lt 49 (by decide)) (S_49 nw nx g) rfl rfl ?_
      refine sw_isub (dX9_readsLetter_0.at 23 rfl) ?_
      refine sw_iconst (dX9_readsLetter_0.at 24 rfl) ?_
      refine sw_icmp_eq (tgt := 57) (dX9_readsLetter_0.at 25 rfl) (by decide) hv.1 (by decide) (fun q => ?_) (fun q => ?_)
      · replace hv := hv.2.1 q
        exact hv
      · replace hv := hv.2.2 q
        refine sw_aload_n (dX9_readsLetter_0.at 26 rfl) rfl rfl ?_
        refine sw_iconst (dX9_readsLetter_0.at 27 rfl) ?_
        refine sw_callV (B' := B0) (As := [vi (1)]) (mc := 0) (ms := 0) (dX9_readsLetter_0.at 28 rfl) lk_X9_151 (S_lt 49 (by decide)) (S_49 nw nx g) rfl rfl (Nat.le_of_ble_eq_true rfl) rfl (Nat.le_refl _) (Nat.le_refl _) ?_
        refine c_X9_faults_f (w := 1) (j := j + 3) hS hn hB hT ?_
        refine sw_goto (tgt := 94) (dX9_readsLetter_0.at 29 rfl) (by decide) ?_
        refine sw_aload_n (dX9_readsLetter_1.at 3 rfl) rfl rfl ?_
        refine sw_iconst (dX9_readsLetter_1.at 4 rfl) ?_
        refine sw_callV (B' := B0) (As := [vi (1)]) (mc := 0) (ms := 0) (dX9_readsLetter_1.at 5 rfl) lk_X9_155 (S_lt 49 (by decide)) (S_49 nw nx g) rfl rfl (Nat.le_of_ble_eq_true rfl) rfl (Nat.le_refl _) (Nat.le_refl _) ?_
        refine c_X9_passes_t1 (j := j + 0) hS hn hB hT ?_
        refine sw_aload_n (dX9_readsLetter_1.at 6 rfl) rfl rfl ?_
        refine sw_getIE (w := bz (true)) (dX9_readsLetter_1.at 7 rfl) fp_X9_131 (S_lt 49 (by decide)) (S_49 nw nx g) rfl rfl ?_
        refine sw_if_eq (tgt := 110) (dX9_readsLetter_1.at 8 rfl) (by decide) (by decide) (fun q => ?_) (fun q => ?_)
        · exact absurd q (by decide)
        · clear q
          refine sw_iconst (dX9_readsLetter_1.at 9 rfl) ?_
          refine sw_goto (tgt := 111) (dX9_readsLetter_1.at 10 rfl) (by decide) ?_
          exact sw_iret (dX9_readsLetter_1.at 12 rfl) rfl (Nat.le_refl _) (Nat.le_refl _) hv
  · exact absurd q (by decide)

set_option maxHeartbeats 8000000 in
theorem c_X9_readsLetter_n {G : GG} {j nw nx gn : Nat} {g : Nat → Sh} {c : Nat → Nat → Int} {post : Option AV → AM → Prop} {nb : Nat → Nat} {n : Nat} {p : Nat} {fk : Nat} {fp : Int} {rk : Nat} {ln : Nat} {bo : Nat → Nat} {a : Nat} {bd : Nat → Nat} (hS : c 49 1 = ((n : Nat) : Int)) (hn : n ≤ 300) (hB : ∀ i, nb i < 256) (hT : ∀ i, i < 300 → c 50 i = ((nb i : Nat) : Int)) (hp : p ≤ n) (p1 : rk ≤ 5) (p2 : ∀ i, i < 25 → bd i = 0 ∨ (3 ≤ bd i ∧ bd i ≤ 12)) (p3 : a < 5) (p4 : bo = rbd bd) (K1 : ltQ nb n p rk a bd = 0 → post (some (vi ((ltV nb n p : Nat) : Int))) (S nw nx g, 78 + gn, (rm c (tkT nb n (tkT nb n p)) (tkF nb n (tkT nb n p)) (tkK nb n (tkT nb n p)) (vlS nb n (tkT nb n p)) false fk fp rk ln bo))) (K2 : ltQ nb n p rk a bd = 1 → post (some (vi 0)) (S nw nx g, 78 + gn, (rm c (tkT nb n p) (tkF nb n p) (tkK nb n p) (vlS nb n p) true 1 ((tkF nb n p : Nat) : Int) rk ln bo))) (K3 : ltQ nb n p rk a bd = 2 → post (some (vi 0)) (S nw nx g, 78 + gn, (rm c (tkT nb n p) (tkF nb n p) (tkK nb n p) (vlS nb n p) true 2 ((tkF nb n p : Nat) : Int) rk ln bo))) : SM G (j + 5) mX9_readsLetter [vr (49), vi (((a : Nat) : Int))] (S nw nx g, 78 + gn, (rm c (tkT nb n p) (tkF nb n p) (tkK nb n p) (vlS nb n p) false fk fp rk ln bo)) 0 0 post := by
  refine sm_of wX9_readsLetter rfl (Nat.le_of_ble_eq_true rfl) ?_
  have h1 := tkT_le (nb := nb) hp
  have h2 := tkF_le (nb := nb) hp
  have h3 := tkK_le (nb := nb) (n := n) (p := p)
  have h9 := hB (min (tkF nb n p) 299)
  have e0 : ltV nb n p = nb (tkF nb n p) - 97 := rfl
  by_cases hc : tkK nb n p = 1 ∧ tkT nb n p = tkF nb n p + 1
  · have h4 := tk_let hc.1 (tkF nb n p) (Nat.le_refl _) (by omega)
    have em : min (tkF nb n p) 299 = tkF nb n p := Nat.min_eq_left (by omega)
    rw [e0] at K1
    subst p4
    have e5 : ∀ x : Nat, x < 5 → x ≠ a → rbd bd (5 * a + x) = if bd (a * 5 + x) = 0 then 2 else bd (a * 5 + x) := fun x hx hy => rbd_at p3 hx hy
    have e6 : nb (tkF nb n p) - 97 < 5 → nb (tkF nb n p) - 97 ≠ a → (bd (a * 5 + (nb (tkF nb n p) - 97)) = 0 ↔ rbd bd (5 * a + (nb (tkF nb n p) - 97)) ≤ 2) ∧ rbd bd (5 * a + (nb (tkF nb n p) - 97)) < 100 := by
      intro h5 h6
      have := p2 (a * 5 + (nb (tkF nb n p) - 97)) (by omega)
      rw [e5 _ h5 h6]
      split <;> omega
    refine g_X9_readsLetter_n hS hn hB hT ?_
    rw [em]
    by_cases hd : rk ≤ ltV nb n p ∨ ltV nb n p = a ∨ bd (a * 5 + ltV nb n p) ≠ 0
    · have eL : ltQ nb n p rk a bd = 2 := by rw [ltQ, if_neg (not_not_intro hc), if_pos hd]
      rw [e0] at hd
      refine ⟨?_, ⟨?_, ⟨?_, ⟨?_, ⟨fun q => ?_, fun q => ⟨?_, ⟨?_, ⟨fun q => ⟨?_, ?_, ⟨fun q => ?_, fun q => ⟨?_, ?_, ⟨fun q => ?_, fun q => ⟨?_, ⟨fun q => ⟨?_, ?_⟩, fun q => ⟨?_, ⟨?_, ⟨fun q => ⟨?_, ?_⟩, fun q => ?_⟩⟩⟩⟩⟩⟩⟩⟩⟩, fun q => ?_⟩⟩⟩⟩⟩⟩⟩⟩
      all_goals first | omega | exact K3 eL | (exfalso; omega)
    · have eL : ltQ nb n p rk a bd = 0 := by rw [ltQ, if_neg (not_not_intro hc), if_neg hd]
      rw [e0] at hd
      refine ⟨?_, ⟨?_, ⟨?_, ⟨?_, ⟨fun q => ?_, fun q => ⟨?_, ⟨?_, ⟨fun q => ⟨?_, ?_, ⟨fun q => ?_, fun q => ⟨?_, ?_, ⟨fun q => ?_, fun q => ⟨?_, ⟨fun q => ⟨?_, ?_⟩, fun q => ⟨?_, ⟨?_, ⟨fun q => ⟨?_, ?_⟩, fun q => ?_⟩⟩⟩⟩⟩⟩⟩⟩⟩, fun q => ?_⟩⟩⟩⟩⟩⟩⟩⟩
      all_goals first | omega | exact K1 eL | (exfalso; omega)
  · have eL : ltQ nb n p rk a bd = 1 := by rw [ltQ, if_pos hc]
    refine g_X9_readsLetter_ni hS hn hB hT ?_
    refine ⟨?_, ⟨?_, ⟨?_, ⟨fun q => ?_, fun q => ⟨?_, ⟨fun q => ?_, fun q => ?_⟩⟩⟩⟩⟩⟩
    all_goals first | omega | exact K2 eL | (exfalso; omega)

