set_option maxHeartbeats 2000000 in
set_option maxRecDepth 20000 in
theorem g_X7_readBond_0 {G : GG} {j nw nx gn : Nat} {g : Nat → Sh} {c : Nat → Nat → Int} {post : Option AV → AM → Prop} {nb : Nat → Nat} {n : Nat} {p : Nat} {rr : Nat} {ll : Nat} {pl : Int} {bd : Nat → Nat} (hS : c 1 1 = ((n : Nat) : Int)) (hn : n ≤ 300) (hB : ∀ i, nb i < 256) (hT : ∀ i, i < 300 → c 2 i = sb (nb i))  (hv : ((tkF nb n p) ≤ (tkT nb n p)) ∧ ((tkT nb n p) ≤ n) ∧ ((tkK nb n p) < 5) ∧ ((p ≤ n) ∧ (((wdB nb (tkK nb n p) (tkF nb n p) (tkT nb n p)) = true) → ((tkT nb n p) ≤ n) ∧ (rr ≤ 5) ∧ ((ltP nb n (tkT nb n p) rr = 0) → ((tkT nb n (tkT nb n p)) ≤ n) ∧ (rr ≤ 5) ∧ (∀ i, i < 25 → bd i < 100) ∧ ((ltV nb n (tkT nb n p)) < 5) ∧ ((ltQ nb n (tkT nb n (tkT nb n p)) rr (ltV nb n (tkT nb n p)) bd = 0) → ((tkT nb n (tkT nb n (tkT nb n p))) ≤ n) ∧ (3 < 100) ∧ (12 < 100) ∧ ((tkK nb n (tkT nb n (tkT nb n (tkT nb n p))) = 2 ∧ 3 ≤ vlT nb n (tkT nb n (tkT nb n (tkT nb n p))) ∧ vlT nb n (tkT nb n (tkT nb n (tkT nb n p))) ≤ 12) → (((ltV nb n (tkT nb n p)) * 5) + (ltV nb n (tkT nb n (tkT nb n p))) < 25) ∧ ((((ltV nb n (tkT nb n (tkT nb n p))) * 5) + (ltV nb n (tkT nb n p)) < 25) ∧ (post none (S nw nx g, 78 + gn, (pm c (tkK nb n (tkT nb n (tkT nb n (tkT nb n (tkT nb n p))))) (tkF nb n (tkT nb n (tkT nb n (tkT nb n (tkT nb n p))))) (tkT nb n (tkT nb n (tkT nb n (tkT nb n (tkT nb n p))))) rr ll 0 pl (uN (uN bd (((ltV nb n (tkT nb n p)) * 5) + (ltV nb n (tkT nb n (tkT nb n p)))) (vlT nb n (tkT nb n (tkT nb n (tkT nb n p))))) (((ltV nb n (tkT nb n (tkT nb n p))) * 5) + (ltV nb n (tkT nb n p))) (vlT nb n (tkT nb n (tkT nb n (tkT nb n p)))))))))) ∧ ((tkK nb n (tkT nb n (tkT nb n (tkT nb n p))) ≠ 2) → post none (S nw nx g, 78 + gn, (pm c (tkK nb n (tkT nb n (tkT nb n (tkT nb n p)))) (tkF nb n (tkT nb n (tkT nb n (tkT nb n p)))) (tkT nb n (tkT nb n (tkT nb n (tkT nb n p)))) rr ll 1 ((tkF nb n (tkT nb n (tkT nb n (tkT nb n p))) : Nat) : Int) bd))) ∧ ((tkK nb n (tkT nb n (tkT nb n (tkT nb n p))) = 2 ∧ ¬ (3 ≤ vlT nb n (tkT nb n (tkT nb n (tkT nb n p))) ∧ vlT nb n (tkT nb n (tkT nb n (tkT nb n p))) ≤ 12)) → post none (S nw nx g, 78 + gn, (pm c (tkK nb n (tkT nb n (tkT nb n (tkT nb n p)))) (tkF nb n (tkT nb n (tkT nb n (tkT nb n p)))) (tkT nb n (tkT nb n (tkT nb n (tkT nb n p)))) rr ll 2 ((tkF nb n (tkT nb n (tkT nb n (tkT nb n p))) : Nat) : Int) bd)))) ∧ ((ltQ nb n (tkT nb n (tkT nb n p)) rr (ltV nb n (tkT nb n p)) bd = 1) → (1 ≠ 0) ∧ (1 < 5) ∧ (post none (S nw nx g, 78 + gn, (pm c (tkK nb n (tkT nb n (tkT nb n p))) (tkF nb n (tkT nb n (tkT nb n p))) (tkT nb n (tkT nb n (tkT nb n p))) rr ll 1 ((tkF nb n (tkT nb n (tkT nb n p)) : Nat) : Int) bd)))) ∧ ((ltQ nb n (tkT nb n (tkT nb n p)) rr (ltV nb n (tkT nb n p)) bd = 2) → (2 ≠ 0) ∧ (2 < 5) ∧ (post none (S nw nx g, 78 + gn, (pm c (tkK nb n (tkT nb n (tkT nb n p))) (tkF nb n (tkT nb n (tkT nb n p))) (tkT nb n (tkT nb n (tkT nb n p))) rr ll 2 ((tkF nb n (tkT nb n (tkT nb n p)) : Nat) : Int) bd))))) ∧ ((ltP nb n (tkT nb n p) rr = 1) → (1 ≠ 0) ∧ (1 < 5) ∧ ((1 ≠ 0) ∧ (1 < 5) ∧ (post none (S nw nx g, 78 + gn, (pm c (tkK nb n (tkT nb n p)) (tkF nb n (tkT nb n p)) (tkT nb n (tkT nb n p)) rr ll 1 ((tkF nb n (tkT nb n p) : Nat) : Int) bd))))) ∧ ((ltP nb n (tkT nb n p) rr = 2) → (2 ≠ 0) ∧ (2 < 5) ∧ ((2 ≠ 0) ∧ (2 < 5) ∧ (post none (S nw nx g, 78 + gn, (pm c (tkK nb n (tkT nb n p)) (tkF nb n (tkT nb n p)) (tkT nb n (tkT nb n p)) rr ll 2 ((tkF nb n (tkT nb n p) : Nat) : Int) bd)))))) ∧ (((wdB nb (tkK nb n p) (tkF nb n p) (tkT nb n p)) = false) → (1 ≠ 0) ∧ (1 < 5) ∧ ((1 ≠ 0) ∧ (1 < 5) ∧ ((1 ≠ 0) ∧ (1 < 5) ∧ (post none (S nw nx g, 78 + gn, (pm c (tkK nb n p) (tkF nb n p) (tkT nb n p) rr ll 1 ((tkF nb n p : Nat) : Int) bd)))))))) :
    SW G (j + 5) mX7_readBond 0 [some (vr (3)), some (vr (1)), none, none, none] [] (S nw nx g, 78 + gn, (pm c (tkK nb n p) (tkF nb n p) (tkT nb n p) rr ll 0 pl bd)) B0 post := by
  refine sw_aload_n (dX7_readBond.at 0 rfl) rfl rfl ?_
  refine sw_aload_n (dX7_readBond.at 1 rfl) rfl rfl ?_
  refine sw_aload_n (dX7_readBond.at 2 rfl) rfl rfl ?_
  refine sw_ldcS (k := 3) (tx := "bond") (dX7_readBond.at 3 rfl) (fun _ _ h => h.2.1) ?_
  refine sw_callV (B' := B0) (As := [vf 3]) (mc := 0) (ms := 0) (dX7_readBond.at 4 rfl) lk_X7_70 (S_lt 1 (by decide)) (S_1 nw nx g) rfl rfl (Nat.le_of_ble_eq_true rfl) rfl (Nat.le_refl _) (Nat.le_refl _) ?_
  refine c_X6_isWord_3 (j := j + 0) hS hn hB hT hv.1 hv.2.1 hv.2.2.1 ?_
  replace hv := hv.2.2.2
  refine sw_callV (B' := B0) (As := [vr (1), vi (bz (wdB nb (tkK nb n p) (tkF nb n p) (tkT nb n p)))]) (mc := 0) (ms := 0) (dX7_readBond.at 5 rfl) lk_X7_43 (S_lt 3 (by decide)) (S_3 nw nx g) rfl rfl (Nat.le_of_ble_eq_true rfl) rfl (Nat.le_refl _) (Nat.le_refl _) ?_
  refine c_X7_pass_0 (j := j + 2) hS hn hB hT hv.1 (fun q => ?_) (fun q => ?_) 
  · replace hv := hv.2.1 q
    refine sw_aload_n (dX7_readBond.at 6 rfl) rfl rfl ?_
    refine sw_aload_n (dX7_readBond.at 7 rfl) rfl rfl ?_
    refine sw_iconst (dX7_readBond.at 8 rfl) ?_
    refine sw_callV (B' := B0) (As := [vr (1), vi ((-1))]) (mc := 0) (ms := 0) (dX7_readBond.at 9 rfl) lk_X7_80 (S_lt 3 (by decide)) (S_3 nw nx g) rfl rfl (Nat.le_of_ble_eq_true rfl) rfl (Nat.le_refl _) (Nat.le_refl _) ?_
    refine c_X7_readLetter_m (j := j + 2) hS hn hB hT hv.1 hv.2.1 (fun q => ?_) (fun q => ?_) (fun q => ?_) 
    · replace hv := hv.2.2.1 q
      refine sw_istore_n (lo' := [some (vr (3)), some (vr (1)), some (vi (((ltV nb n (tkT nb n p) : Nat) : Int))), none, none]) (dX7_readBond.at 10 rfl) rfl (by decide) rfl ?_
      refine sw_aload_n (dX7_readBond.at 11 rfl) rfl rfl ?_
      refine sw_aload_n (dX7_readBond.at 12 rfl) rfl rfl ?_
      refine sw_iload_n (dX7_readBond.at 13 rfl) rfl rfl ?_
      refine sw_callV (B' := B0) (As := [vr (1), vi (((ltV nb n (tkT nb n p) : Nat) : Int))]) (mc := 0) (ms := 0) (dX7_readBond.at 14 rfl) lk_X7_80 (S_lt 3 (by decide)) (S_3 nw nx g) rfl rfl (Nat.le_of_ble_eq_true rfl) rfl (Nat.le_refl _) (Nat.le_refl _) ?_
      refine c_X7_readLetter_n (a := (ltV nb n (tkT nb n p))) (j := j + 2) hS hn hB hT hv.1 hv.2.1 hv.2.2.1 hv.2.2.2.1 (fun q => ?_) (fun q => ?_) (fun q => ?_) 
      · replace hv := hv.2.2.2.2.1 q
        refine sw_istore_n (lo' := [some (vr (3)), some (vr (1)), some (vi (((ltV nb n (tkT nb n p) : Nat) : Int))), some (vi (((ltV nb n (tkT nb n (tkT nb n p)) : Nat) : Int))), none]) (dX7_readBond.at 15 rfl) rfl (by decide) rfl ?_
        refine sw_aload_n (dX7_readBond.at 16 rfl) rfl rfl ?_
        refine sw_aload_n (dX7_readBond.at 17 rfl) rfl rfl ?_
        refine sw_iconst (dX7_readBond.at 18 rfl) ?_
        refine sw_bipush (dX7_readBond.at 19 rfl) (by decide) ?_
        refine sw_callV (B' := B0) (As := [vr (1), vi (3), vi (12)]) (mc := 0) (ms := 0) (dX7_readBond.at 20 rfl) lk_X7_74 (S_lt 3 (by decide)) (S_3 nw nx g) rfl rfl (Nat.le_of_ble_eq_true rfl) rfl (Nat.le_refl _) (Nat.le_refl _) ?_
        refine c_X7_readNumber (lo := 3) (hi := 12) (j := j + 2) hS hn hB hT hv.1 hv.2.1 hv.2.2.1 (fun q => ?_) (fun q => ?_) (fun q => ?_) 
        · replace hv := hv.2.2.2.1 q
          refine sw_istore (lo' := [some (vr (3)), some (vr (1)), some (vi (((ltV nb n (tkT nb n p) : Nat) : Int))), some (vi (((ltV nb n (tkT nb n (tkT nb n p)) : Nat) : Int))), some (vi (((vlT nb n (tkT nb n (tkT nb n (tkT nb n p))) : Nat) : Int)))]) (dX7_readBond.at 21 rfl) (by decide) rfl ?_
          refine sw_aload_n (dX7_readBond.at 22 rfl) rfl rfl ?_
          refine sw_getIE (w := 0) (dX7_readBond.at 23 rfl) fp_X7_27 (S_lt 3 (by decide)) (S_3 nw nx g) rfl rfl ?_
          refine sw_if_ne (tgt := 66) (dX7_readBond.at 24 rfl) (by decide) (by decide) (fun q => ?_) (fun q => ?_)
          · exact absurd q (by decide)
          · clear q
            refine sw_aload_n (dX7_readBond.at 25 rfl) rfl rfl ?_
            refine sw_getR (dX7_readBond.at 26 rfl) fp_X7_9 (S_lt 3 (by decide)) (S_3 nw nx g) rfl rfl ?_
            refine sw_iload_n (dX7_readBond.at 27 rfl) rfl rfl ?_
            refine sw_iconst (dX7_readBond.at 28 rfl) ?_
            refine sw_imul (dX7_readBond.at 29 rfl) ?_
            refine sw_topI (y := (((ltV nb n (tkT nb n p)) * 5 : Nat) : Int)) (by first | rfl | (congr 1)) ?_
            refine sw_iload_n (dX7_readBond.at 30 rfl) rfl rfl ?_
            refine sw_iadd (dX7_readBond.at 31 rfl) ?_
            refine sw_topI (y := ((((ltV nb n (tkT nb n p)) * 5) + (ltV nb n (tkT nb n (tkT nb n p))) : Nat) : Int)) (by first | rfl | (congr 1)) ?_
            refine sw_iload (dX7_readBond.at 32 rfl) rfl ?_
            refine sw_iastN (((ltV nb n (tkT nb n p)) * 5) + (ltV nb n (tkT nb n (tkT nb n p)))) (dX7_readBond.at 33 rfl) (S_lt 4 (by decide)) (S_4 nw nx g) (by decide) hv.1 ?_
            refine SW.cg (M' := (S nw nx g, 78 + gn, (pm c (tkK nb n (tkT nb n (tkT nb n (tkT nb n (tkT nb n p))))) (tkF nb n (tkT nb n (tkT nb n (tkT nb n (tkT nb n p))))) (tkT nb n (tkT nb n (tkT nb n (tkT nb n (tkT nb n p))))) rr ll 0 pl (uN bd (((ltV nb n (tkT nb n p)) * 5) + (ltV nb n (tkT nb n (tkT nb n p)))) (vlT nb n (tkT nb n (tkT nb n (tkT nb n p)))))))) (congrArg (fun m => (S nw nx g, 78 + gn, m)) (pm_a4 hv.1)) ?_
            replace hv := hv.2
            refine sw_aload_n (dX7_readBond.at 34 rfl) rfl rfl ?_
            refine sw_getR (dX7_readBond.at 35 rfl) fp_X7_9 (S_lt 3 (by decide)) (S_3 nw nx g) rfl rfl ?_
            refine sw_iload_n (dX7_readBond.at 36 rfl) rfl rfl ?_
            refine sw_iconst (dX7_readBond.at 37 rfl) ?_
            refine sw_imul (dX7_readBond.at 38 rfl) ?_
            refine sw_topI (y := (((ltV nb n (tkT nb n (tkT nb n p))) * 5 : Nat) : Int)) (by first | rfl | (congr 1)) ?_
            refine sw_iload_n (dX7_readBond.at 39 rfl) rfl rfl ?_
            refine sw_iadd (dX7_readBond.at 40 rfl) ?_
            refine sw_topI (y := ((((ltV nb n (tkT nb n (tkT nb n p))) * 5) + (ltV nb n (tkT nb n p)) : Nat) : Int)) (by first | rfl | (congr 1)) ?_
            refine sw_iload (dX7_readBond.at 41 rfl) rfl ?_
            refine sw_iastN (((ltV nb n (tkT nb n (tkT nb n p))) * 5) + (ltV nb n (tkT nb n p))) (dX7_readBond.at 42 rfl) (S_lt 4 (by decide)) (S_4 nw nx g) (by decide) hv.1 ?_
            refine SW.cg (M' := (S nw nx g, 78 + gn, (pm c (tkK nb n (tkT nb n (tkT nb n (tkT nb n (tkT nb n p))))) (tkF nb n (tkT nb n (tkT nb n (tkT nb n (tkT nb n p))))) (tkT nb n (tkT nb n (tkT nb n (tkT nb n (tkT nb n p))))) rr ll 0 pl (uN (uN bd (((ltV nb n (tkT nb n p)) * 5) + (ltV nb n (tkT nb n (tkT nb n p)))) (vlT nb n (tkT nb n (tkT nb n (tkT nb n p))))) (((ltV nb n (tkT nb n (tkT nb n p))) * 5) + (ltV nb n (tkT nb n p))) (vlT nb n (tkT nb n (tkT nb n (tkT nb n p)))))))) (congrArg (fun m => (S nw nx g, 78 + gn, m)) (pm_a4 hv.1)) ?_
            replace hv := hv.2
            exact sw_vret (dX7_readBond.at 43 rfl) rfl (Nat.le_refl _) (Nat.le_refl _) hv
        · replace hv := hv.2.2.2.2.1 q
          refine sw_istore (lo' := [some (vr (3)), some (vr (1)), some (vi (((ltV nb n (tkT nb n p) : Nat) : Int))), some (vi (((ltV nb n (tkT nb n (tkT nb n p)) : Nat) : Int))), some (vi (0))]) (dX7_readBond.at 21 rfl) (by decide) rfl ?_
          refine sw_aload_n (dX7_readBond.at 22 rfl) rfl rfl ?_
          refine sw_getIE (w := 1) (dX7_readBond.at 23 rfl) fp_X7_27 (S_lt 3 (by decide)) (S_3 nw nx g) rfl rfl ?_
          refine sw_if_ne (tgt := 66) (dX7_readBond.at 24 rfl) (by decide) (by decide) (fun q => ?_) (fun q => ?_)
          · clear q
            exact sw_vret (dX7_readBond.at 43 rfl) rfl (Nat.le_refl _) (Nat.le_refl _) hv
          · exact absurd q (by decide)
        · replace hv := hv.2.2.2.2.2 q
          refine sw_istore (lo' := [some (vr (3)), some (vr (1)), some (vi (((ltV nb n (tkT nb n p) : Nat) : Int))), some (vi (((ltV nb n (tkT nb n (tkT nb n p)) : Nat) : Int))), some (vi (0))]) (dX7_readBond.at 21 rfl) (by decide) rfl ?_
          refine sw_aload_n (dX7_readBond.at 22 rfl) rfl rfl ?_
          refine sw_getIE (w := 2) (dX7_readBond.at 23 rfl) fp_X7_27 (S_lt 3 (by decide)) (S_3 nw nx g) rfl rfl ?_
          refine sw_if_ne (tgt := 66) (dX7_readBond.at 24 rfl) (by decide) (by decide) (fun q => ?_) (fun q => ?_)
          · clear q
            exact sw_vret (dX7_readBond.at 43 rfl) rfl (Nat.le_refl _) (Nat.le_refl _) hv
          · exact absurd q (by decide)
      · replace hv := hv.2.2.2.2.2.1 q
        refine sw_istore_n (lo' := [some (vr (3)), some (vr (1)), some (vi (((ltV nb n (tkT nb n p) : Nat) : Int))), some (vi (0)), none]) (dX7_readBond.at 15 rfl) rfl (by decide) rfl ?_
        refine sw_aload_n (dX7_readBond.at 16 rfl) rfl rfl ?_
        refine sw_aload_n (dX7_readBond.at 17 rfl) rfl rfl ?_
        refine sw_iconst (dX7_readBond.at 18 rfl) ?_
        refine sw_bipush (dX7_readBond.at 19 rfl) (by decide) ?_
        refine sw_callV (B' := B0) (As := [vr (1), vi (3), vi (12)]) (mc := 0) (ms := 0) (dX7_readBond.at 20 rfl) lk_X7_74 (S_lt 3 (by decide)) (S_3 nw nx g) rfl rfl (Nat.le_of_ble_eq_true rfl) rfl (Nat.le_refl _) (Nat.le_refl _) ?_
        refine c_X7_readNumber_bad (j := j + 2) hS hn hB hT hv.1 hv.2.1 ?_
        replace hv := hv.2.2
        refine sw_istore (lo' := [some (vr (3)), some (vr (1)), some (vi (((ltV nb n (tkT nb n p) : Nat) : Int))), some (vi (0)), some (vi (0))]) (dX7_readBond.at 21 rfl) (by decide) rfl ?_
        refine sw_aload_n (dX7_readBond.at 22 rfl) rfl rfl ?_
        refine sw_getIE (w := 1) (dX7_readBond.at 23 rfl) fp_X7_27 (S_lt 3 (by decide)) (S_3 nw nx g) rfl rfl ?_
        refine sw_if_ne (tgt := 66) (dX7_readBond.at 24 rfl) (by decide) (by decide) (fun q => ?_) (fun q => ?_)
        · clear q
          exact sw_vret (dX7_readBond.at 43 rfl) rfl (Nat.le_refl _) (Nat.le_refl _) hv
        · exact absurd q (by decide)
      · replace hv := hv.2.2.2.2.2.2 q
        refine sw_istore_n (lo' := [some (vr (3)), some (vr (1)), some (vi (((ltV nb n (tkT nb n p) : Nat) : Int))), some (vi (0)), none]) (dX7_readBond.at 15 rfl) rfl (by decide) rfl ?_
        refine sw_aload_n (dX7_readBond.at 16 rfl) rfl rfl ?_
        refine sw_aload_n (dX7_readBond.at 17 rfl) rfl rfl ?_
        refine sw_iconst (dX7_readBond.at 18 rfl) ?_
        refine sw_bipush (dX7_readBond.at 19 rfl) (by decide) ?_
        refine sw_callV (B' := B0) (As := [vr (1), vi (3), vi (12)]) (mc := 0) (ms := 0) (dX7_readBond.at 20 rfl) lk_X7_74 (S_lt 3 (by decide)) (S_3 nw nx g) rfl rfl (Nat.le_of_ble_eq_true rfl) rfl (Nat.le_refl _) (Nat.le_refl _) ?_
        refine c_X7_readNumber_bad (j := j + 2) hS hn hB hT hv.1 hv.2.1 ?_
        replace hv := hv.2.2
        refine sw_istore (lo' := [some (vr (3)), some (vr (1)), some (vi (((ltV nb n (tkT nb n p) : Nat) : Int))), some (vi (0)), some (vi (0))]) (dX7_readBond.at 21 rfl) (by decide) rfl ?_
        refine sw_aload_n (dX7_readBond.at 22 rfl) rfl rfl ?_
        refine sw_getIE (w := 2) (dX7_readBond.at 23 rfl) fp_X7_27 (S_lt 3 (by decide)) (S_3 nw nx g) rfl rfl ?_
        refine sw_if_ne (tgt := 66) (dX7_readBond.at 24 rfl) (by decide) (by decide) (fun q => ?_) (fun q => ?_)
        · clear q
          exact sw_vret (dX7_readBond.at 43 rfl) rfl (Nat.le_refl _) (Nat.le_refl _) hv
        · exact absurd q (by decide)
    · replace hv := hv.2.2.2.1 q
      refine sw_istore_n (lo' := [some (vr (3)), some (vr (1)), some (vi (0)), none, none]) (dX7_readBond.at 10 rfl) rfl (by decide) rfl ?_
      refine sw_aload_n (dX7_readBond.at 11 rfl) rfl rfl ?_
      refine sw_aload_n (dX7_readBond.at 12 rfl) rfl rfl ?_
      refine sw_iload_n (dX7_readBond.at 13 rfl) rfl rfl ?_
      refine sw_callV (B' := B0) (As := [vr (1), vi (0)]) (mc := 0) (ms := 0) (dX7_readBond.at 14 rfl) lk_X7_80 (S_lt 3 (by decide)) (S_3 nw nx g) rfl rfl (Nat.le_of_ble_eq_true rfl) rfl (Nat.le_refl _) (Nat.le_refl _) ?_
      refine c_X7_readLetter_bad (j := j + 2) hS hn hB hT hv.1 hv.2.1 ?_
      replace hv := hv.2.2
      refine sw_istore_n (lo' := [some (vr (3)), some (vr (1)), some (vi (0)), some (vi (0)), none]) (dX7_readBond.at 15 rfl) rfl (by decide) rfl ?_
      refine sw_aload_n (dX7_readBond.at 16 rfl) rfl rfl ?_
      refine sw_aload_n (dX7_readBond.at 17 rfl) rfl rfl ?_
      refine sw_iconst (dX7_readBond.at 18 rfl) ?_
      refine sw_bipush (dX7_readBond.at 19 rfl) (by decide) ?_
      refine sw_callV (B' := B0) (As := [vr (1), vi (3), vi (12)]) (mc := 0) (ms := 0) (dX7_readBond.at 20 rfl) lk_X7_74 (S_lt 3 (by decide)) (S_3 nw nx g) rfl rfl (Nat.le_of_ble_eq_true rfl) rfl (Nat.le_refl _) (Nat.le_refl _) ?_
      refine c_X7_readNumber_bad (j := j + 2) hS hn hB hT hv.1 hv.2.1 ?_
      replace hv := hv.2.2
      refine sw_istore (lo' := [some (vr (3)), some (vr (1)), some (vi (0)), some (vi (0)), some (vi (0))]) (dX7_readBond.at 21 rfl) (by decide) rfl ?_
      refine sw_aload_n (dX7_readBond.at 22 rfl) rfl rfl ?_
      refine sw_getIE (w := 1) (dX7_readBond.at 23 rfl) fp_X7_27 (S_lt 3 (by decide)) (S_3 nw nx g) rfl rfl ?_
      refine sw_if_ne (tgt := 66) (dX7_readBond.at 24 rfl) (by decide) (by decide) (fun q => ?_) (fun q => ?_)
      · clear q
        exact sw_vret (dX7_readBond.at 43 rfl) rfl (Nat.le_refl _) (Nat.le_refl _) hv
      · exact absurd q (by decide)
    · replace hv := hv.2.2.2.2 q
      refine sw_istore_n (lo' := [some (vr (3)), some (vr (1)), some (vi (0)), none, none]) (dX7_readBond.at 10 rfl) rfl (by decide) rfl ?_
      refine sw_aload_n (dX7_readBond.at 11 rfl) rfl rfl ?_
      refine sw_aload_n (dX7_readBond.at 12 rfl) rfl rfl ?_
      refine sw_iload_n (dX7_readBond.at 13 rfl) rfl rfl ?_
      refine sw_callV (B' := B0) (As := [vr (1), vi (0)]) (mc := 0) (ms := 0) (dX7_readBond.at 14 rfl) lk_X7_80 (S_lt 3 (by decide)) (S_3 nw nx g) rfl rfl (Nat.le_of_ble_eq_true rfl) rfl (Nat.le_refl _) (Nat.le_refl _) ?_
      refine c_X7_readLetter_bad (j := j + 2) hS hn hB hT hv.1 hv.2.1 ?_
      replace hv := hv.2.2
      refine sw_istore_n (lo' := [some (vr (3)), some (vr (1)), some (vi (0)), some (vi (0)), none]) (dX7_readBond.at 15 rfl) rfl (by decide) rfl ?_
      refine sw_aload_n (dX7_readBond.at 16 rfl) rfl rfl ?_
      refine sw_aload_n (dX7_readBond.at 17 rfl) rfl rfl ?_
      refine sw_iconst (dX7_readBond.at 18 rfl) ?_
      refine sw_bipush (dX7_readBond.at 19 rfl) (by decide) ?_
      refine sw_callV (B' := B0) (As := [vr (1), vi (3), vi (12)]) (mc := 0) (ms := 0) (dX7_readBond.at 20 rfl) lk_X7_74 (S_lt 3 (by decide)) (S_3 nw nx g) rfl rfl (Nat.le_of_ble_eq_true rfl) rfl (Nat.le_refl _) (Nat.le_refl _) ?_
      refine c_X7_readNumber_bad (j := j + 2) hS hn hB hT hv.1 hv.2.1 ?_
      replace hv := hv.2.2
      refine sw_istore (lo' := [some (vr (3)), some (vr (1)), some (vi (0)), some (vi (0)), some (vi (0))]) (dX7_readBond.at 21 rfl) (by decide) rfl ?_
      refine sw_aload_n (dX7_readBond.at 22 rfl) rfl rfl ?_
      refine sw_getIE (w := 2) (dX7_readBond.at 23 rfl) fp_X7_27 (S_lt 3 (by decide)) (S_3 nw nx g) rfl rfl ?_
      refine sw_if_ne (tgt := 66) (dX7_readBond.at 24 rfl) (by decide) (by decide) (fun q => ?_) (fun q => ?_)
      · clear q
        exact sw_vret (dX7_readBond.at 43 rfl) rfl (Nat.le_refl _) (Nat.le_refl _) hv
      · exact absurd q (by decide)
  · replace hv := hv.2.2 q
    refine sw_aload_n (dX7_readBond.at 6 rfl) rfl rfl ?_
    refine sw_aload_n (dX7_readBond.at 7 rfl) rfl rfl ?_
    refine sw_iconst (dX7_readBond.at 8 rfl) ?_
    refine sw_callV (B' := B0) (As := [vr (1), vi ((-1))]) (mc := 0) (ms := 0) (dX7_readBond.at 9 rfl) lk_X7_80 (S_lt 3 (by decide)) (S_3 nw nx g) rfl rfl (Nat.le_of_ble_eq_true rfl) rfl (Nat.le_refl _) (Nat.le_refl _) ?_
    refine c_X7_readLetter_bad (j := j + 2) hS hn hB hT hv.1 hv.2.1 ?_
    replace hv := hv.2.2
    refine sw_istore_n (lo' := [some (vr (3)), some (vr (1)), some (vi (0)), none, none]) (dX7_readBond.at 10 rfl) rfl (by decide) rfl ?_
    refine sw_aload_n (dX7_readBond.at 11 rfl) rfl rfl ?_
    refine sw_aload_n (dX7_readBond.at 12 rfl) rfl rfl ?_
    refine sw_iload_n (dX7_readBond.at 13 rfl) rfl rfl ?_
    refine sw_callV (B' := B0) (As := [vr (1), vi (0)]) (mc := 0) (ms := 0) (dX7_readBond.at 14 rfl) lk_X7_80 (S_lt 3 (by decide)) (S_3 nw nx g) rfl rfl (Nat.le_of_ble_eq_true rfl) rfl (Nat.le_refl _) (Nat.le_refl _) ?_
    refine c_X7_readLetter_bad (j := j + 2) hS hn hB hT hv.1 hv.2.1 ?_
    replace hv := hv.2.2
    refine sw_istore_n (lo' := [some (vr (3)), some (vr (1)), some (vi (0)), some (vi (0)), none]) (dX7_readBond.at 15 rfl) rfl (by decide) rfl ?_
    refine sw_aload_n (dX7_readBond.at 16 rfl) rfl rfl ?_
    refine sw_aload_n (dX7_readBond.at 17 rfl) rfl rfl ?_
    refine sw_iconst (dX7_readBond.at 18 rfl) ?_
    refine sw_bipush (dX7_readBond.at 19 rfl) (by decide) ?_
    refine sw_callV (B' := B0) (As := [vr (1), vi (3), vi (12)]) (mc := 0) (ms := 0) (dX7_readBond.at 20 rfl) lk_X7_74 (S_lt 3 (by decide)) (S_3 nw nx g) rfl rfl (Nat.le_of_ble_eq_true rfl) rfl (Nat.le_refl _) (Nat.le_refl _) ?_
    refine c_X7_readNumber_bad (j := j + 2) hS hn hB hT hv.1 hv.2.1 ?_
    replace hv := hv.2.2
    refine sw_istore (lo' := [some (vr (3)), some (vr (1)), some (vi (0)), some (vi (0)), some (vi (0))]) (dX7_readBond.at 21 rfl) (by decide) rfl ?_
    refine sw_aload_n (dX7_readBond.at 22 rfl) rfl rfl ?_
    refine sw_getIE (w := 1) (dX7_readBond.at 23 rfl) fp_X7_27 (S_lt 3 (by decide)) (S_3 nw nx g) rfl rfl ?_
    refine sw_if_ne (tgt := 66) (dX7_readBond.at 24 rfl) (by decide) (by decide) (fun q => ?_) (fun q => ?_)
    · clear q
      exact sw_vret (dX7_readBond.at 43 rfl) rfl (Nat.le_refl _) (Nat.le_refl _) hv
    · exact absurd q (by decide)

set_option maxHeartbeats 16000000 in
theorem c_X7_readBond {G : GG} {j nw nx gn : Nat} {g : Nat → Sh} {c : Nat → Nat → Int} {post : Option AV → AM → Prop} {nb : Nat → Nat} {n : Nat} {p : Nat} {rr : Nat} {ll : Nat} {pl : Int} {bd : Nat → Nat} (hS : c 1 1 = ((n : Nat) : Int)) (hn : n ≤ 300) (hB : ∀ i, nb i < 256) (hT : ∀ i, i < 300 → c 2 i = sb (nb i)) (hp : p ≤ n) (hr : rr ≤ 5) (hb : BDok rr bd) (K1 : (bnP nb n p rr bd).1 = 0 → post none (S nw nx g, 78 + gn, (pm c (tkK nb n ((bnP nb n p rr bd).2.2.1)) (tkF nb n ((bnP nb n p rr bd).2.2.1)) (tkT nb n ((bnP nb n p rr bd).2.2.1)) rr ll 0 pl ((bnP nb n p rr bd).2.2.2)))) (K2 : (bnP nb n p rr bd).1 ≠ 0 → ∀ tk tf tt : Nat, tk < 5 → post none (S nw nx g, 78 + gn, (pm c tk tf tt rr ll (bnP nb n p rr bd).1 (bnP nb n p rr bd).2.1 bd))) : SM G (j + 6) mX7_readBond [vr (3), vr (1)] (S nw nx g, 78 + gn, (pm c (tkK nb n p) (tkF nb n p) (tkT nb n p) rr ll 0 pl bd)) 0 0 post := by
  refine sm_of wX7_readBond rfl (Nat.le_of_ble_eq_true rfl) ?_
  have h1 := tkT_le (nb := nb) hp
  have h2 := tkT_le (nb := nb) h1.2
  have h3 := tkT_le (nb := nb) h2.2
  have h4 := tkT_le (nb := nb) h3.2
  have h5 := tkT_le (nb := nb) h4.2
  have hk := tkK_le (nb := nb) (n := n) (p := p)
  have hF := tkF_le (nb := nb) hp
  have KA : ∀ (p2 : Nat) (bd2 : Nat → Nat), (bnP nb n p rr bd).1 = 0 → (bnP nb n p rr bd).2.2.1 = p2 → (bnP nb n p rr bd).2.2.2 = bd2 → post none (S nw nx g, 78 + gn, (pm c (tkK nb n (p2)) (tkF nb n (p2)) (tkT nb n (p2)) rr ll 0 pl (bd2))) := fun p2 bd2 a b d => b ▸ d ▸ K1 a
  have KB : ∀ (k3 : Nat) (z3 : Int) (tk tf tt : Nat), (bnP nb n p rr bd).1 = k3 → (bnP nb n p rr bd).2.1 = z3 → k3 ≠ 0 → tk < 5 → post none (S nw nx g, 78 + gn, (pm c tk tf tt rr ll k3 z3 bd)) := fun k3 z3 tk tf tt a b d t5 => by subst a; subst b; exact K2 d tk tf tt t5
  have hL : ltP nb n (tkT nb n p) rr = 0 → ltV nb n (tkT nb n p) < rr := by
    intro h
    unfold ltP at h
    split at h
    · omega
    · split at h <;> omega
  have hQ : ltQ nb n (tkT nb n (tkT nb n p)) rr (ltV nb n (tkT nb n p)) bd = 0 → ltV nb n (tkT nb n (tkT nb n p)) < rr := by
    intro h
    unfold ltQ at h
    split at h
    · omega
    · split at h <;> omega
  refine g_X7_readBond_0 hS hn hB hT ?_
  refine ⟨?_, ?_, ?_, ⟨?_, fun q => ⟨?_, ?_, fun q => ⟨?_, ?_, ?_, ?_, fun q => ⟨?_, ?_, ?_, fun q => ⟨?_, ⟨?_, ?_⟩⟩, fun q => ?_, fun q => ?_⟩, fun q => ⟨?_, ?_, ?_⟩, fun q => ⟨?_, ?_, ?_⟩⟩, fun q => ⟨?_, ?_, ⟨?_, ?_, ?_⟩⟩, fun q => ⟨?_, ?_, ⟨?_, ?_, ?_⟩⟩⟩, fun q => ⟨?_, ?_, ⟨?_, ?_, ⟨?_, ?_, ?_⟩⟩⟩⟩⟩
  all_goals first | omega | decide | exact (fun i hi => by have := hb.1 i hi; omega) | (have a1 := hL (by assumption); omega) | (have a1 := hL (by assumption); have a2 := hQ (by assumption); omega) | (refine KB _ _ _ _ _ ?_ ?_ ?_ ?_ <;> first | decide | exact tkK_le | (simp [bnP, *]; done)) | (refine KA _ _ ?_ ?_ ?_ <;> (simp [bnP, *]; done))

set_option maxHeartbeats 2000000 in
set_option maxRecDepth 20000 in
theorem g_X7_clear_0 {G : GG} {j nw nx gn : Nat} {g : Nat → Sh} {c : Nat → Nat → Int} {post : Option AV → AM → Prop} {nb : Nat → Nat} {n : Nat} {tk : Nat} {tf : Nat} {tt : Nat} {rr : Nat} {ll : Nat} {ff : Nat} {pl : Int} {bd : Nat → Nat} (hS : c 1 1 = ((n : Nat) : Int)) (hn : n ≤ 300) (hB : ∀ i, nb i < 256) (hT : ∀ i, i < 300 → c 2 i = sb (nb i))  (hv : SW G (j + 0) mX7_clear 22 [some (vr (3)), some (vi (0))] [] (S nw nx g, 78 + gn, (pm c tk tf tt 0 0 0 (-1) bd)) B0 post) :
    SW G (j + 0) mX7_clear 0 [some (vr (3)), none] [] (S nw nx g, 78 + gn, (pm c tk tf tt rr ll ff pl bd)) B0 post := by
  refine sw_aload_n (dX7_clear.at 0 rfl) rfl rfl ?_
  refine sw_iconst (dX7_clear.at 1 rfl) ?_
  refine sw_putI (dX7_clear.at 2 rfl) fp_X7_67 (S_lt 3 (by decide)) (S_3 nw nx g) rfl ?_
  refine SW.cg (M' := (S nw nx g, 78 + gn, (pm c tk tf tt 0 ll ff pl bd))) (congrArg (fun m => (S nw nx g, 78 + gn, m)) pm_31) ?_
  refine sw_aload_n (dX7_clear.at 3 rfl) rfl rfl ?_
  refine sw_iconst (dX7_clear.at 4 rfl) ?_
  refine sw_putI (dX7_clear.at 5 rfl) fp_X7_33 (S_lt 3 (by decide)) (S_3 nw nx g) rfl ?_
  refine SW.cg (M' := (S nw nx g, 78 + gn, (pm c tk tf tt 0 0 ff pl bd))) (congrArg (fun m => (S nw nx g, 78 + gn, m)) pm_32) ?_
  refine sw_aload_n (dX7_clear.at 6 rfl) rfl rfl ?_
  refine sw_iconst (dX7_clear.at 7 rfl) ?_
  refine sw_putI (dX7_clear.at 8 rfl) fp_X7_27 (S_lt 3 (by decide)) (S_3 nw nx g) rfl ?_
  refine SW.cg (M' := (S nw nx g, 78 + gn, (pm c tk tf tt 0 0 0 pl bd))) (congrArg (fun m => (S nw nx g, 78 + gn, m)) pm_33) ?_
  refine sw_aload_n (dX7_clear.at 9 rfl) rfl rfl ?_
  refine sw_iconst (dX7_clear.at 10 rfl) ?_
  refine sw_putI (dX7_clear.at 11 rfl) fp_X7_15 (S_lt 3 (by decide)) (S_3 nw nx g) rfl ?_
  refine SW.cg (M' := (S nw nx g, 78 + gn, (pm c tk tf tt 0 0 0 (-1) bd))) (congrArg (fun m => (S nw nx g, 78 + gn, m)) pm_34) ?_
  refine sw_iconst (dX7_clear.at 12 rfl) ?_
  refine sw_istore_n (lo' := [some (vr (3)), some (vi (0))]) (dX7_clear.at 13 rfl) rfl (by decide) rfl ?_
  exact hv

set_option maxHeartbeats 2000000 in
set_option maxRecDepth 20000 in
theorem g_X7_clear_22 {G : GG} {j nw nx gn : Nat} {g : Nat → Sh} {c : Nat → Nat → Int} {post : Option AV → AM → Prop} {nb : Nat → Nat} {n : Nat} {tk : Nat} {tf : Nat} {tt : Nat} {bd : Nat → Nat} {u : Nat} (hS : c 1 1 = ((n : Nat) : Int)) (hn : n ≤ 300) (hB : ∀ i, nb i < 256) (hT : ∀ i, i < 300 → c 2 i = sb (nb i))  (hv : (u < 2147483648) ∧ (((25 ≤ u) → post none (S nw nx g, 78 + gn, (pm c tk tf tt 0 0 0 (-1) bd))) ∧ ((¬ (25 ≤ u)) → (u < 25) ∧ (SW G (j + 0) mX7_clear 22 [some (vr (3)), some (vi (((u + 1 : Nat) : Int)))] [] (S nw nx g, 78 + gn, (pm c tk tf tt 0 0 0 (-1) (uN bd u 0))) B0 post)))) :
    SW G (j + 0) mX7_clear 22 [some (vr (3)), some (vi (((u : Nat) : Int)))] [] (S nw nx g, 78 + gn, (pm c tk tf tt 0 0 0 (-1) bd)) B0 post := by
  refine sw_iload_n (dX7_clear.at 14 rfl) rfl rfl ?_
  refine sw_bipush (dX7_clear.at 15 rfl) (by decide) ?_
  refine sw_icmpN_ge u 25 (tgt := 41) (dX7_clear.at 16 rfl) (by decide) hv.1 (by decide) (fun q => ?_) (fun q => ?_)
  · replace hv := hv.2.1 q
    exact sw_vret (dX7_clear.at 24 rfl) rfl (Nat.le_refl _) (Nat.le_refl _) hv
  · replace hv := hv.2.2 q
    refine sw_aload_n (dX7_clear.at 17 rfl) rfl rfl ?_
    refine sw_getR (dX7_clear.at 18 rfl) fp_X7_9 (S_lt 3 (by decide)) (S_3 nw nx g) rfl rfl ?_
    refine sw_iload_n (dX7_clear.at 19 rfl) rfl rfl ?_
    refine sw_iconst (dX7_clear.at 20 rfl) ?_
    refine sw_iastN u (dX7_clear.at 21 rfl) (S_lt 4 (by decide)) (S_4 nw nx g) (by decide) hv.1 ?_
    refine SW.cg (M' := (S nw nx g, 78 + gn, (pm c tk tf tt 0 0 0 (-1) (uN bd u 0)))) (congrArg (fun m => (S nw nx g, 78 + gn, m)) (pm_a4 hv.1)) ?_
    replace hv := hv.2
    refine sw_iinc (lo' := [some (vr (3)), some (vi (((u + 1 : Nat) : Int)))]) (dX7_clear.at 22 rfl) rfl (by decide) rfl ?_
    refine sw_goto (tgt := 22) (dX7_clear.at 23 rfl) (by decide) ?_
    exact hv

theorem lp_X7_clear {G : GG} {j nw nx gn : Nat} {g : Nat → Sh} {c : Nat → Nat → Int} {post : Option AV → AM → Prop} {nb : Nat → Nat} {n : Nat} {tk tf tt : Nat} (hS : c 1 1 = ((n : Nat) : Int)) (hn : n ≤ 300) (hB : ∀ i, nb i < 256) (hT : ∀ i, i < 300 → c 2 i = sb (nb i)) (K : post none (S nw nx g, 78 + gn, (pm c tk tf tt 0 0 0 (-1) (fun _ => 0)))) : ∀ (k u : Nat) (bd : Nat → Nat), u + k = 25 → (∀ q, q < u → bd q = 0) → SW G (j + 0) mX7_clear 22 [some (vr (3)), some (vi (((u : Nat) : Int)))] [] (S nw nx g, 78 + gn, (pm c tk tf tt 0 0 0 (-1) bd)) B0 post := by
  intro k
  induction k with
  | zero =>
    intro u bd hu hz
    have e : (pm c tk tf tt 0 0 0 (-1) bd) = (pm c tk tf tt 0 0 0 (-1) (fun _ => 0)) := pm_bd (fun i hi => hz i (by omega))
    rw [e]
    refine g_X7_clear_22 hS hn hB hT ?_
    refine ⟨?_, ⟨fun q => ?_, fun q => ⟨?_, ?_⟩⟩⟩
    all_goals first | omega | exact K | (exfalso; omega)
  | succ k ih =>
    intro u bd hu hz
    refine g_X7_clear_22 hS hn hB hT ?_
    refine ⟨?_, ⟨fun q => ?_, fun q => ⟨?_, ?_⟩⟩⟩
    all_goals first | omega | (exfalso; omega) | (refine ih _ _ (by omega) ?_; intro q hq; simp only [uN]; split <;> first | rfl | exact hz q (by omega))
theorem c_X7_clear {G : GG} {j nw nx gn : Nat} {g : Nat → Sh} {c : Nat → Nat → Int} {post : Option AV → AM → Prop} {nb : Nat → Nat} {n : Nat} {tk : Nat} {tf : Nat} {tt : Nat} {rr : Nat} {ll : Nat} {ff : Nat} {pl : Int} {bd : Nat → Nat} (hS : c 1 1 = ((n : Nat) : Int)) (hn : n ≤ 300) (hB : ∀ i, nb i < 256) (hT : ∀ i, i < 300 → c 2 i = sb (nb i)) (K : post none (S nw nx g, 78 + gn, (pm c tk tf tt 0 0 0 (-1) (fun _ => 0)))) : SM G (j + 1) mX7_clear [vr (3)] (S nw nx g, 78 + gn, (pm c tk tf tt rr ll ff pl bd)) 0 0 post := by
  refine sm_of wX7_clear rfl (Nat.le_of_ble_eq_true rfl) ?_
  refine g_X7_clear_0 hS hn hB hT ?_
  exact lp_X7_clear hS hn hB hT K 25 0 bd rfl (fun q h => absurd h (by omega))

set_option maxHeartbeats 2000000 in
set_option maxRecDepth 20000 in
theorem g_X7_readGroup_0 {G : GG} {j nw nx gn : Nat} {g : Nat → Sh} {c : Nat → Nat → Int} {post : Option AV → AM → Prop} {nb : Nat → Nat} {n : Nat} {tk : Nat} {tf : Nat} {tt : Nat} {rr : Nat} {ll : Nat} {ff : Nat} {pl : Int} {bd : Nat → Nat} (hS : c 1 1 = ((n : Nat) : Int)) (hn : n ≤ 300) (hB : ∀ i, nb i < 256) (hT : ∀ i, i < 300 → c 2 i = sb (nb i))  (hv : SW G (j + 6) mX7_readGroup 10 [some (vr (3)), some (vr (1)), some (vi (0))] [] (S nw nx g, 78 + gn, (pm c (tkK nb n 0) (tkF nb n 0) (tkT nb n 0) 0 0 0 (-1) (fun _ => 0))) B0 post) :
    SW G (j + 6) mX7_readGroup 0 [some (vr (3)), some (vr (1)), none] [] (S nw nx g, 78 + gn, (pm c tk tf tt rr ll ff pl bd)) B0 post := by
  refine sw_aload_n (dX7_readGroup.at 0 rfl) rfl rfl ?_
  refine sw_callV (B' := B0) (As := []) (mc := 0) (ms := 0) (dX7_readGroup.at 1 rfl) lk_X7_19 (S_lt 3 (by decide)) (S_3 nw nx g) rfl rfl (Nat.le_of_ble_eq_true rfl) rfl (Nat.le_refl _) (Nat.le_refl _) ?_
  refine c_X7_clear (j := j + 5) hS hn hB hT ?_
  refine sw_aload_n (dX7_readGroup.at 2 rfl) rfl rfl ?_
  refine sw_callV (B' := B0) (As := []) (mc := 0) (ms := 0) (dX7_readGroup.at 3 rfl) lk_X7_22 (S_lt 1 (by decide)) (S_1 nw nx g) rfl rfl (Nat.le_of_ble_eq_true rfl) rfl (Nat.le_refl _) (Nat.le_refl _) ?_
  refine c_X6_readFirst (j := j + 3) hS hn hB hT ?_
  refine sw_iconst (dX7_readGroup.at 4 rfl) ?_
  refine sw_istore_n (lo' := [some (vr (3)), some (vr (1)), some (vi (0))]) (dX7_readGroup.at 5 rfl) rfl (by decide) rfl ?_
  exact hv

set_option maxHeartbeats 2000000 in
set_option maxRecDepth 20000 in
theorem g_X7_readGroup_10b {G : GG} {j nw nx gn : Nat} {g : Nat → Sh} {c : Nat → Nat → Int} {post : Option AV → AM → Prop} {nb : Nat → Nat} {n : Nat} {tk : Nat} {tf : Nat} {tt : Nat} {rr : Nat} {ll : Nat} {ff : Nat} {pl : Int} {bd : Nat → Nat} {u : Nat} (hS : c 1 1 = ((n : Nat) : Int)) (hn : n ≤ 300) (hB : ∀ i, nb i < 256) (hT : ∀ i, i < 300 → c 2 i = sb (nb i))  (hv : (u < 2147483648) ∧ (((300 ≤ u) → post none (S nw nx g, 78 + gn, (pm c tk tf tt rr ll ff pl bd))) ∧ ((¬ (300 ≤ u)) → (ff < 2147483648) ∧ (((ff ≠ 0) → post none (S nw nx g, 78 + gn, (pm c tk tf tt rr ll ff pl bd))) ∧ ((ff = 0) → SW G (j + 6) mX7_readGroup 24 [some (vr (3)), some (vr (1)), some (vi (((u : Nat) : Int)))] [] (S nw nx g, 78 + gn, (pm c tk tf tt rr ll ff pl bd)) B0 post))))) :
    SW G (j + 6) mX7_readGroup 10 [some (vr (3)), some (vr (1)), some (vi (((u : Nat) : Int)))] [] (S nw nx g, 78 + gn, (pm c tk tf tt rr ll ff pl bd)) B0 post := by
  refine sw_iload_n (dX7_readGroup.at 6 rfl) rfl rfl ?_
  refine sw_sipush (dX7_readGroup.at 7 rfl) (by decide) ?_
  refine sw_icmpN_ge u 300 (tgt := 85) (dX7_readGroup.at 8 rfl) (by decide) hv.1 (by decide) (fun q => ?_) (fun q => ?_)
  · replace hv := hv.2.1 q
    exact sw_vret (dX7_readGroup.at 43 rfl) rfl (Nat.le_refl _) (Nat.le_refl _) hv
  · replace hv := hv.2.2 q
    refine sw_aload_n (dX7_readGroup.at 9 rfl) rfl rfl ?_
    refine sw_getIE (w := ((ff : Nat) : Int)) (dX7_readGroup.at 10 rfl) fp_X7_27 (S_lt 3 (by decide)) (S_3 nw nx g) rfl rfl ?_
    refine sw_ifN_ne ff (tgt := 85) (dX7_readGroup.at 11 rfl) (by decide) hv.1 (fun q => ?_) (fun q => ?_)
    · replace hv := hv.2.1 q
      exact sw_vret (dX7_readGroup.at 43 rfl) rfl (Nat.le_refl _) (Nat.le_refl _) hv
    · replace hv := hv.2.2 q
      exact hv

set_option maxHeartbeats 2000000 in
set_option maxRecDepth 20000 in
theorem g_X7_readGroup_10 {G : GG} {j nw nx gn : Nat} {g : Nat → Sh} {c : Nat → Nat → Int} {post : Option AV → AM → Prop} {nb : Nat → Nat} {n : Nat} {p : Nat} {rr : Nat} {ll : Nat} {bd : Nat → Nat} {u : Nat} (hS : c 1 1 = ((n : Nat) : Int)) (hn : n ≤ 300) (hB : ∀ i, nb i < 256) (hT : ∀ i, i < 300 → c 2 i = sb (nb i))  (hv : (u < 2147483648) ∧ (((300 ≤ u) → post none (S nw nx g, 78 + gn, (pm c (tkK nb n p) (tkF nb n p) (tkT nb n p) rr ll 0 (-1) bd))) ∧ ((¬ (300 ≤ u)) → (tkK nb n p < 2147483648) ∧ (((tkK nb n p = 0) → post none (S nw nx g, 78 + gn, (pm c (tkK nb n p) (tkF nb n p) (tkT nb n p) rr ll 0 (-1) bd))) ∧ ((¬ (tkK nb n p = 0)) → (ll < 2147483648) ∧ (((ll ≠ 0) → (p ≤ n) ∧ (rr ≤ 5) ∧ (BDok rr bd) ∧ (((bnP nb n p rr bd).1 = 0) → (tkK nb n ((bnP nb n p rr bd).2.2.1) < 2147483648) ∧ (((tkK nb n ((bnP nb n p rr bd).2.2.1) ≠ 3) → (((bnP nb n p rr bd).2.2.1) ≤ n) ∧ (SW G (j + 6) mX7_readGroup 10 [some (vr (3)), some (vr (1)), some (vi (((u + 1 : Nat) : Int)))] [] (S nw nx g, 78 + gn, (pm c (tkK nb n ((bnP nb n p rr bd).2.2.1)) (tkF nb n ((bnP nb n p rr bd).2.2.1)) (tkT nb n ((bnP nb n p rr bd).2.2.1)) rr (ll + 1) 1 ((tkF nb n ((bnP nb n p rr bd).2.2.1) : Nat) : Int) ((bnP nb n p rr bd).2.2.2))) B0 post)) ∧ ((tkK nb n ((bnP nb n p rr bd).2.2.1) = 3) → (((bnP nb n p rr bd).2.2.1) ≤ n) ∧ (SW G (j + 6) mX7_readGroup 10 [some (vr (3)), some (vr (1)), some (vi (((u + 1 : Nat) : Int)))] [] (S nw nx g, 78 + gn, (pm c (tkK nb n (tkT nb n ((bnP nb n p rr bd).2.2.1))) (tkF nb n (tkT nb n ((bnP nb n p rr bd).2.2.1))) (tkT nb n (tkT nb n ((bnP nb n p rr bd).2.2.1))) rr (ll + 1) 0 (-1) ((bnP nb n p rr bd).2.2.2))) B0 post)))) ∧ (((bnP nb n p rr bd).1 ≠ 0) → ∀ tk_1 tf_1 tt_1 : Nat, (tk_1 < 5) → (tk_1 < 2147483648) ∧ (((tk_1 ≠ 3) → (((bnP nb n p rr bd).1) ≠ 0) ∧ (((bnP nb n p rr bd).1) < 5) ∧ (SW G (j + 6) mX7_readGroup 10 [some (vr (3)), some (vr (1)), some (vi (((u + 1 : Nat) : Int)))] [] (S nw nx g, 78 + gn, (pm c tk_1 tf_1 tt_1 rr (ll + 1) ((bnP nb n p rr bd).1) ((bnP nb n p rr bd).2.1) bd)) B0 post)) ∧ ((tk_1 = 3) → (((bnP nb n p rr bd).1) ≠ 0) ∧ (((bnP nb n p rr bd).1) < 5) ∧ (SW G (j + 6) mX7_readGroup 10 [some (vr (3)), some (vr (1)), some (vi (((u + 1 : Nat) : Int)))] [] (S nw nx g, 78 + gn, (pm c tk_1 tf_1 tt_1 rr (ll + 1) ((bnP nb n p rr bd).1) ((bnP nb n p rr bd).2.1) bd)) B0 post))))) ∧ ((ll = 0) → (p ≤ n) ∧ (((rkP nb n p).1 = 0) → (tkK nb n ((rkP nb n p).2.2.1) < 2147483648) ∧ (((tkK nb n ((rkP nb n p).2.2.1) ≠ 3) → (((rkP nb n p).2.2.1) ≤ n) ∧ (SW G (j + 6) mX7_readGroup 10 [some (vr (3)), some (vr (1)), some (vi (((u + 1 : Nat) : Int)))] [] (S nw nx g, 78 + gn, (pm c (tkK nb n ((rkP nb n p).2.2.1)) (tkF nb n ((rkP nb n p).2.2.1)) (tkT nb n ((rkP nb n p).2.2.1)) ((rkP nb n p).2.2.2) (ll + 1) 1 ((tkF nb n ((rkP nb n p).2.2.1) : Nat) : Int) bd)) B0 post)) ∧ ((tkK nb n ((rkP nb n p).2.2.1) = 3) → (((rkP nb n p).2.2.1) ≤ n) ∧ (SW G (j + 6) mX7_readGroup 10 [some (vr (3)), some (vr (1)), some (vi (((u + 1 : Nat) : Int)))] [] (S nw nx g, 78 + gn, (pm c (tkK nb n (tkT nb n ((rkP nb n p).2.2.1))) (tkF nb n (tkT nb n ((rkP nb n p).2.2.1))) (tkT nb n (tkT nb n ((rkP nb n p).2.2.1))) ((rkP nb n p).2.2.2) (ll + 1) 0 (-1) bd)) B0 post)))) ∧ (((rkP nb n p).1 ≠ 0) → ∀ tk_2 tf_2 tt_2 rr_2 : Nat, (tk_2 < 5) → (tk_2 < 2147483648) ∧ (((tk_2 ≠ 3) → (((rkP nb n p).1) ≠ 0) ∧ (((rkP nb n p).1) < 5) ∧ (SW G (j + 6) mX7_readGroup 10 [some (vr (3)), some (vr (1)), some (vi (((u + 1 : Nat) : Int)))] [] (S nw nx g, 78 + gn, (pm c tk_2 tf_2 tt_2 rr_2 (ll + 1) ((rkP nb n p).1) ((rkP nb n p).2.1) bd)) B0 post)) ∧ ((tk_2 = 3) → (((rkP nb n p).1) ≠ 0) ∧ (((rkP nb n p).1) < 5) ∧ (SW G (j + 6) mX7_readGroup 10 [some (vr (3)), some (vr (1)), some (vi (((u + 1 : Nat) : Int)))] [] (S nw nx g, 78 + gn, (pm c tk_2 tf_2 tt_2 rr_2 (ll + 1) ((rkP nb n p).1) ((rkP nb n p).2.1) bd)) B0 post))))))))))) :
    SW G (j + 6) mX7_readGroup 10 [some (vr (3)), some (vr (1)), some (vi (((u : Nat) : Int)))] [] (S nw nx g, 78 + gn, (pm c (tkK nb n p) (tkF nb n p) (tkT nb n p) rr ll 0 (-1) bd)) B0 post := by
  refine sw_iload_n (dX7_readGroup.at 6 rfl) rfl rfl ?_
  refine sw_sipush (dX7_readGroup.at 7 rfl) (by decide) ?_
  refine sw_icmpN_ge u 300 (tgt := 85) (dX7_readGroup.at 8 rfl) (by decide) hv.1 (by decide) (fun q => ?_) (fun q => ?_)
  · replace hv := hv.2.1 q
    exact sw_vret (dX7_readGroup.at 43 rfl) rfl (Nat.le_refl _) (Nat.le_refl _) hv
  · replace hv := hv.2.2 q
    refine sw_aload_n (dX7_readGroup.at 9 rfl) rfl rfl ?_
    refine sw_getIE (w := 0) (dX7_readGroup.at 10 rfl) fp_X7_27 (S_lt 3 (by decide)) (S_3 nw nx g) rfl rfl ?_
    refine sw_if_ne (tgt := 85) (dX7_readGroup.at 11 rfl) (by decide) (by decide) (fun q => ?_) (fun q => ?_)
    · exact absurd q (by decide)
    · clear q
      refine sw_aload_n (dX7_readGroup.at 12 rfl) rfl rfl ?_
      refine sw_getIE (w := ((tkK nb n p : Nat) : Int)) (dX7_readGroup.at 13 rfl) fp_X7_30 (S_lt 1 (by decide)) (S_1 nw nx g) rfl rfl ?_
      refine sw_ifN_eq (tkK nb n p) (tgt := 85) (dX7_readGroup.at 14 rfl) (by decide) hv.1 (fun q => ?_) (fun q => ?_)
      · replace hv := hv.2.1 q
        exact sw_vret (dX7_readGroup.at 43 rfl) rfl (Nat.le_refl _) (Nat.le_refl _) hv
      · replace hv := hv.2.2 q
        refine sw_aload_n (dX7_readGroup.at 15 rfl) rfl rfl ?_
        refine sw_getIE (w := ((ll : Nat) : Int)) (dX7_readGroup.at 16 rfl) fp_X7_33 (S_lt 3 (by decide)) (S_3 nw nx g) rfl rfl ?_
        refine sw_ifN_ne ll (tgt := 46) (dX7_readGroup.at 17 rfl) (by decide) hv.1 (fun q => ?_) (fun q => ?_)
        · replace hv := hv.2.1 q
          refine sw_aload_n (dX7_readGroup.at 22 rfl) rfl rfl ?_
          refine sw_aload_n (dX7_readGroup.at 23 rfl) rfl rfl ?_
          refine sw_callV (B' := B0) (As := [vr (1)]) (mc := 0) (ms := 0) (dX7_readGroup.at 24 rfl) lk_X7_40 (S_lt 3 (by decide)) (S_3 nw nx g) rfl rfl (Nat.le_of_ble_eq_true rfl) rfl (Nat.le_refl _) (Nat.le_refl _) ?_
          refine c_X7_readBond (j := j + 0) hS hn hB hT hv.1 hv.2.1 hv.2.2.1 (fun q => ?_) (fun q tk_1 tf_1 tt_1 q2 => ?_) 
          · replace hv := hv.2.2.2.1 q
            refine sw_aload_n (dX7_readGroup.at 25 rfl) rfl rfl ?_
            refine sw_aload_n (dX7_readGroup.at 26 rfl) rfl rfl ?_
            refine sw_aload_n (dX7_readGroup.at 27 rfl) rfl rfl ?_
            refine sw_getIE (w := ((tkK nb n ((bnP nb n p rr bd).2.2.1) : Nat) : Int)) (dX7_readGroup.at 28 rfl) fp_X7_30 (S_lt 1 (by decide)) (S_1 nw nx g) rfl rfl ?_
            refine sw_iconst (dX7_readGroup.at 29 rfl) ?_
            refine sw_icmpN_ne (tkK nb n ((bnP nb n p rr bd).2.2.1)) 3 (tgt := 65) (dX7_readGroup.at 30 rfl) (by decide) hv.1 (by decide) (fun q => ?_) (fun q => ?_)
            · replace hv := hv.2.1 q
              refine sw_iconst (dX7_readGroup.at 33 rfl) ?_
              refine sw_callV (B' := B0) (As := [vr (1), vi (0)]) (mc := 0) (ms := 0) (dX7_readGroup.at 34 rfl) lk_X7_43 (S_lt 3 (by decide)) (S_3 nw nx g) rfl rfl (Nat.le_of_ble_eq_true rfl) rfl (Nat.le_refl _) (Nat.le_refl _) ?_
              refine c_X7_pass_f (j := j + 3) hS hn hB hT hv.1 ?_
              replace hv := hv.2
              refine sw_aload_n (dX7_readGroup.at 35 rfl) rfl rfl ?_
              refine sw_dup (dX7_readGroup.at 36 rfl) (fun _ h => by cases h) ?_
              refine sw_getIE (w := ((ll : Nat) : Int)) (dX7_readGroup.at 37 rfl) fp_X7_33 (S_lt 3 (by decide)) (S_3 nw nx g) rfl rfl ?_
              refine sw_iconst (dX7_readGroup.at 38 rfl) ?_
              refine sw_iadd (dX7_readGroup.at 39 rfl) ?_
              refine sw_topI (y := ((ll + 1 : Nat) : Int)) (by first | rfl | (congr 1)) ?_
              refine sw_putI (dX7_readGroup.at 40 rfl) fp_X7_33 (S_lt 3 (by decide)) (S_3 nw nx g) rfl ?_
              refine SW.cg (M' := (S nw nx g, 78 + gn, (pm c (tkK nb n ((bnP nb n p rr bd).2.2.1)) (tkF nb n ((bnP nb n p rr bd).2.2.1)) (tkT nb n ((bnP nb n p rr bd).2.2.1)) rr (ll + 1) 1 ((tkF nb n ((bnP nb n p rr bd).2.2.1) : Nat) : Int) ((bnP nb n p rr bd).2.2.2)))) (congrArg (fun m => (S nw nx g, 78 + gn, m)) pm_32) ?_
              refine sw_iinc (lo' := [some (vr (3)), some (vr (1)), some (vi (((u + 1 : Nat) : Int)))]) (dX7_readGroup.at 41 rfl) rfl (by decide) rfl ?_
              refine sw_goto (tgt := 10) (dX7_readGroup.at 42 rfl) (by decide) ?_
              exact hv
            · replace hv := hv.2.2 q
              refine sw_iconst (dX7_readGroup.at 31 rfl) ?_
              refine sw_goto (tgt := 66) (dX7_readGroup.at 32 rfl) (by decide) ?_
              refine sw_callV (B' := B0) (As := [vr (1), vi (1)]) (mc := 0) (ms := 0) (dX7_readGroup.at 34 rfl) lk_X7_43 (S_lt 3 (by decide)) (S_3 nw nx g) rfl rfl (Nat.le_of_ble_eq_true rfl) rfl (Nat.le_refl _) (Nat.le_refl _) ?_
              refine c_X7_pass_t (j := j + 3) hS hn hB hT hv.1 ?_
              replace hv := hv.2
              refine sw_aload_n (dX7_readGroup.at 35 rfl) rfl rfl ?_
              refine sw_dup (dX7_readGroup.at 36 rfl) (fun _ h => by cases h) ?_
              refine sw_getIE (w := ((ll : Nat) : Int)) (dX7_readGroup.at 37 rfl) fp_X7_33 (S_lt 3 (by decide)) (S_3 nw nx g) rfl rfl ?_
              refine sw_iconst (dX7_readGroup.at 38 rfl) ?_
              refine sw_iadd (dX7_readGroup.at 39 rfl) ?_
              refine sw_topI (y := ((ll + 1 : Nat) : Int)) (by first | rfl | (congr 1)) ?_
              refine sw_putI (dX7_readGroup.at 40 rfl) fp_X7_33 (S_lt 3 (by decide)) (S_3 nw nx g) rfl ?_
              refine SW.cg (M' := (S nw nx g, 78 + gn, (pm c (tkK nb n (tkT nb n ((bnP nb n p rr bd).2.2.1))) (tkF nb n (tkT nb n ((bnP nb n p rr bd).2.2.1))) (tkT nb n (tkT nb n ((bnP nb n p rr bd).2.2.1))) rr (ll + 1) 0 (-1) ((bnP nb n p rr bd).2.2.2)))) (congrArg (fun m => (S nw nx g, 78 + gn, m)) pm_32) ?_
              refine sw_iinc (lo' := [some (vr (3)), some (vr (1)), some (vi (((u + 1 : Nat) : Int)))]) (dX7_readGroup.at 41 rfl) rfl (by decide) rfl ?_
              refine sw_goto (tgt := 10) (dX7_readGroup.at 42 rfl) (by decide) ?_
              exact hv
          · replace hv := hv.2.2.2.2 q tk_1 tf_1 tt_1 q2
            refine sw_aload_n (dX7_readGroup.at 25 rfl) rfl rfl ?_
            refine sw_aload_n (dX7_readGroup.at 26 rfl) rfl rfl ?_
            refine sw_aload_n (dX7_readGroup.at 27 rfl) rfl rfl ?_
            refine sw_getIE (w := ((tk_1 : Nat) : Int)) (dX7_readGroup.at 28 rfl) fp_X7_30 (S_lt 1 (by decide)) (S_1 nw nx g) rfl rfl ?_
            refine sw_iconst (dX7_readGroup.at 29 rfl) ?_
            refine sw_icmpN_ne tk_1 3 (tgt := 65) (dX7_readGroup.at 30 rfl) (by decide) hv.1 (by decide) (fun q => ?_) (fun q => ?_)
            · replace hv := hv.2.1 q
              refine sw_iconst (dX7_readGroup.at 33 rfl) ?_
              refine sw_callV (B' := B0) (As := [vr (1), vi (0)]) (mc := 0) (ms := 0) (dX7_readGroup.at 34 rfl) lk_X7_43 (S_lt 3 (by decide)) (S_3 nw nx g) rfl rfl (Nat.le_of_ble_eq_true rfl) rfl (Nat.le_refl _) (Nat.le_refl _) ?_
              refine c_X7_pass_bad (j := j + 3) hS hn hB hT hv.1 hv.2.1 ?_
              replace hv := hv.2.2
              refine sw_aload_n (dX7_readGroup.at 35 rfl) rfl rfl ?_
              refine sw_dup (dX7_readGroup.at 36 rfl) (fun _ h => by cases h) ?_
              refine sw_getIE (w := ((ll : Nat) : Int)) (dX7_readGroup.at 37 rfl) fp_X7_33 (S_lt 3 (by decide)) (S_3 nw nx g) rfl rfl ?_
              refine sw_iconst (dX7_readGroup.at 38 rfl) ?_
              refine sw_iadd (dX7_readGroup.at 39 rfl) ?_
              refine sw_topI (y := ((ll + 1 : Nat) : Int)) (by first | rfl | (congr 1)) ?_
              refine sw_putI (dX7_readGroup.at 40 rfl) fp_X7_33 (S_lt 3 (by decide)) (S_3 nw nx g) rfl ?_
              refine SW.cg (M' := (S nw nx g, 78 + gn, (pm c tk_1 tf_1 tt_1 rr (ll + 1) ((bnP nb n p rr bd).1) ((bnP nb n p rr bd).2.1) bd))) (congrArg (fun m => (S nw nx g, 78 + gn, m)) pm_32) ?_
              refine sw_iinc (lo' := [some (vr (3)), some (vr (1)), some (vi (((u + 1 : Nat) : Int)))]) (dX7_readGroup.at 41 rfl) rfl (by decide) rfl ?_
              refine sw_goto (tgt := 10) (dX7_readGroup.at 42 rfl) (by decide) ?_
              exact hv
            · replace hv := hv.2.2 q
              refine sw_iconst (dX7_readGroup.at 31 rfl) ?_
              refine sw_goto (tgt := 66) (dX7_readGroup.at 32 rfl) (by decide) ?_
              refine sw_callV (B' := B0) (As := [vr (1), vi (1)]) (mc := 0) (ms := 0) (dX7_readGroup.at 34 rfl) lk_X7_43 (S_lt 3 (by decide)) (S_3 nw nx g) rfl rfl (Nat.le_of_ble_eq_true rfl) rfl (Nat.le_refl _) (Nat.le_refl _) ?_
              refine c_X7_pass_bad (j := j + 3) hS hn hB hT hv.1 hv.2.1 ?_
              replace hv := hv.2.2
              refine sw_aload_n (dX7_readGroup.at 35 rfl) rfl rfl ?_
              refine sw_dup (dX7_readGroup.at 36 rfl) (fun _ h => by cases h) ?_
              refine sw_getIE (w := ((ll : Nat) : Int)) (dX7_readGroup.at 37 rfl) fp_X7_33 (S_lt 3 (by decide)) (S_3 nw nx g) rfl rfl ?_
              refine sw_iconst (dX7_readGroup.at 38 rfl) ?_
              refine sw_iadd (dX7_readGroup.at 39 rfl) ?_
              refine sw_topI (y := ((ll + 1 : Nat) : Int)) (by first | rfl | (congr 1)) ?_
              refine sw_putI (dX7_readGroup.at 40 rfl) fp_X7_33 (S_lt 3 (by decide)) (S_3 nw nx g) rfl ?_
              refine SW.cg (M' := (S nw nx g, 78 + gn, (pm c tk_1 tf_1 tt_1 rr (ll + 1) ((bnP nb n p rr bd).1) ((bnP nb n p rr bd).2.1) bd))) (congrArg (fun m => (S nw nx g, 78 + gn, m)) pm_32) ?_
              refine sw_iinc (lo' := [some (vr (3)), some (vr (1)), some (vi (((u + 1 : Nat) : Int)))]) (dX7_readGroup.at 41 rfl) rfl (by decide) rfl ?_
              refine sw_goto (tgt := 10) (dX7_readGroup.at 42 rfl) (by decide) ?_
              exact hv
        · replace hv := hv.2.2 q
          refine sw_aload_n (dX7_readGroup.at 18 rfl) rfl rfl ?_
          refine sw_aload_n (dX7_readGroup.at 19 rfl) rfl rfl ?_
          refine sw_callV (B' := B0) (As := [vr (1)]) (mc := 0) (ms := 0) (dX7_readGroup.at 20 rfl) lk_X7_36 (S_lt 3 (by decide)) (S_3 nw nx g) rfl rfl (Nat.le_of_ble_eq_true rfl) rfl (Nat.le_refl _) (Nat.le_refl _) ?_
          refine c_X7_readRank (j := j + 0) hS hn hB hT hv.1 (fun q => ?_) (fun q tk_2 tf_2 tt_2 rr_2 q2 => ?_) 
          · replace hv := hv.2.1 q
            refine sw_goto (tgt := 51) (dX7_readGroup.at 21 rfl) (by decide) ?_
            refine sw_aload_n (dX7_readGroup.at 25 rfl) rfl rfl ?_
            refine sw_aload_n (dX7_readGroup.at 26 rfl) rfl rfl ?_
            refine sw_aload_n (dX7_readGroup.at 27 rfl) rfl rfl ?_
            refine sw_getIE (w := ((tkK nb n ((rkP nb n p).2.2.1) : Nat) : Int)) (dX7_readGroup.at 28 rfl) fp_X7_30 (S_lt 1 (by decide)) (S_1 nw nx g) rfl rfl ?_
            refine sw_iconst (dX7_readGroup.at 29 rfl) ?_
            refine sw_icmpN_ne (tkK nb n ((rkP nb n p).2.2.1)) 3 (tgt := 65) (dX7_readGroup.at 30 rfl) (by decide) hv.1 (by decide) (fun q => ?_) (fun q => ?_)
            · replace hv := hv.2.1 q
              refine sw_iconst (dX7_readGroup.at 33 rfl) ?_
              refine sw_callV (B' := B0) (As := [vr (1), vi (0)]) (mc := 0) (ms := 0) (dX7_readGroup.at 34 rfl) lk_X7_43 (S_lt 3 (by decide)) (S_3 nw nx g) rfl rfl (Nat.le_of_ble_eq_true rfl) rfl (Nat.le_refl _) (Nat.le_refl _) ?_
              refine c_X7_pass_f (j := j + 3) hS hn hB hT hv.1 ?_
              replace hv := hv.2
              refine sw_aload_n (dX7_readGroup.at 35 rfl) rfl rfl ?_
              refine sw_dup (dX7_readGroup.at 36 rfl) (fun _ h => by cases h) ?_
              refine sw_getIE (w := ((ll : Nat) : Int)) (dX7_readGroup.at 37 rfl) fp_X7_33 (S_lt 3 (by decide)) (S_3 nw nx g) rfl rfl ?_
              refine sw_iconst (dX7_readGroup.at 38 rfl) ?_
              refine sw_iadd (dX7_readGroup.at 39 rfl) ?_
              refine sw_topI (y := ((ll + 1 : Nat) : Int)) (by first | rfl | (congr 1)) ?_
              refine sw_putI (dX7_readGroup.at 40 rfl) fp_X7_33 (S_lt 3 (by decide)) (S_3 nw nx g) rfl ?_
              refine SW.cg (M' := (S nw nx g, 78 + gn, (pm c (tkK nb n ((rkP nb n p).2.2.1)) (tkF nb n ((rkP nb n p).2.2.1)) (tkT nb n ((rkP nb n p).2.2.1)) ((rkP nb n p).2.2.2) (ll + 1) 1 ((tkF nb n ((rkP nb n p).2.2.1) : Nat) : Int) bd))) (congrArg (fun m => (S nw nx g, 78 + gn, m)) pm_32) ?_
              refine sw_iinc (lo' := [some (vr (3)), some (vr (1)), some (vi (((u + 1 : Nat) : Int)))]) (dX7_readGroup.at 41 rfl) rfl (by decide) rfl ?_
              refine sw_goto (tgt := 10) (dX7_readGroup.at 42 rfl) (by decide) ?_
              exact hv
            · replace hv := hv.2.2 q
              refine sw_iconst (dX7_readGroup.at 31 rfl) ?_
              refine sw_goto (tgt := 66) (dX7_readGroup.at 32 rfl) (by decide) ?_
              refine sw_callV (B' := B0) (As := [vr (1), vi (1)]) (mc := 0) (ms := 0) (dX7_readGroup.at 34 rfl) lk_X7_43 (S_lt 3 (by decide)) (S_3 nw nx g) rfl rfl (Nat.le_of_ble_eq_true rfl) rfl (Nat.le_refl _) (Nat.le_refl _) ?_
              refine c_X7_pass_t (j := j + 3) hS hn hB hT hv.1 ?_
              replace hv := hv.2
              refine sw_aload_n (dX7_readGroup.at 35 rfl) rfl rfl ?_
              refine sw_dup (dX7_readGroup.at 36 rfl) (fun _ h => by cases h) ?_
              refine sw_getIE (w := ((ll : Nat) : Int)) (dX7_readGroup.at 37 rfl) fp_X7_33 (S_lt 3 (by decide)) (S_3 nw nx g) rfl rfl ?_
              refine sw_iconst (dX7_readGroup.at 38 rfl) ?_
              refine sw_iadd (dX7_readGroup.at 39 rfl) ?_
              refine sw_topI (y := ((ll + 1 : Nat) : Int)) (by first | rfl | (congr 1)) ?_
              refine sw_putI (dX7_readGroup.at 40 rfl) fp_X7_33 (S_lt 3 (by decide)) (S_3 nw nx g) rfl ?_
              refine SW.cg (M' := (S nw nx g, 78 + gn, (pm c (tkK nb n (tkT nb n ((rkP nb n p).2.2.1))) (tkF nb n (tkT nb n ((rkP nb n p).2.2.1))) (tkT nb n (tkT nb n ((rkP nb n p).2.2.1))) ((rkP nb n p).2.2.2) (ll + 1) 0 (-1) bd))) (congrArg (fun m => (S nw nx g, 78 + gn, m)) pm_32) ?_
              refine sw_iinc (lo' := [some (vr (3)), some (vr (1)), some (vi (((u + 1 : Nat) : Int)))]) (dX7_readGroup.at 41 rfl) rfl (by decide) rfl ?_
              refine sw_goto (tgt := 10) (dX7_readGroup.at 42 rfl) (by decide) ?_
              exact hv
          · replace hv := hv.2.2 q tk_2 tf_2 tt_2 rr_2 q2
            refine sw_goto (tgt := 51) (dX7_readGroup.at 21 rfl) (by decide) ?_
            refine sw_aload_n (dX7_readGroup.at 25 rfl) rfl rfl ?_
            refine sw_aload_n (dX7_readGroup.at 26 rfl) rfl rfl ?_
            refine sw_aload_n (dX7_readGroup.at 27 rfl) rfl rfl ?_
            refine sw_getIE (w := ((tk_2 : Nat) : Int)) (dX7_readGroup.at 28 rfl) fp_X7_30 (S_lt 1 (by decide)) (S_1 nw nx g) rfl rfl ?_
            refine sw_iconst (dX7_readGroup.at 29 rfl) ?_
            refine sw_icmpN_ne tk_2 3 (tgt := 65) (dX7_readGroup.at 30 rfl) (by decide) hv.1 (by decide) (fun q => ?_) (fun q => ?_)
            · replace hv := hv.2.1 q
              refine sw_iconst (dX7_readGroup.at 33 rfl) ?_
              refine sw_callV (B' := B0) (As := [vr (1), vi (0)]) (mc := 0) (ms := 0) (dX7_readGroup.at 34 rfl) lk_X7_43 (S_lt 3 (by decide)) (S_3 nw nx g) rfl rfl (Nat.le_of_ble_eq_true rfl) rfl (Nat.le_refl _) (Nat.le_refl _) ?_
              refine c_X7_pass_bad (j := j + 3) hS hn hB hT hv.1 hv.2.1 ?_
              replace hv := hv.2.2
              refine sw_aload_n (dX7_readGroup.at 35 rfl) rfl rfl ?_
              refine sw_dup (dX7_readGroup.at 36 rfl) (fun _ h => by cases h) ?_
              refine sw_getIE (w := ((ll : Nat) : Int)) (dX7_readGroup.at 37 rfl) fp_X7_33 (S_lt 3 (by decide)) (S_3 nw nx g) rfl rfl ?_
              refine sw_iconst (dX7_readGroup.at 38 rfl) ?_
              refine sw_iadd (dX7_readGroup.at 39 rfl) ?_
              refine sw_topI (y := ((ll + 1 : Nat) : Int)) (by first | rfl | (congr 1)) ?_
              refine sw_putI (dX7_readGroup.at 40 rfl) fp_X7_33 (S_lt 3 (by decide)) (S_3 nw nx g) rfl ?_
              refine SW.cg (M' := (S nw nx g, 78 + gn, (pm c tk_2 tf_2 tt_2 rr_2 (ll + 1) ((rkP nb n p).1) ((rkP nb n p).2.1) bd))) (congrArg (fun m => (S nw nx g, 78 + gn, m)) pm_32) ?_
              refine sw_iinc (lo' := [some (vr (3)), some (vr (1)), some (vi (((u + 1 : Nat) : Int)))]) (dX7_readGroup.at 41 rfl) rfl (by decide) rfl ?_
              refine sw_goto (tgt := 10) (dX7_readGroup.at 42 rfl) (by decide) ?_
              exact hv
            · replace hv := hv.2.2 q
              refine sw_iconst (dX7_readGroup.at 31 rfl) ?_
              refine sw_goto (tgt := 66) (dX7_readGroup.at 32 rfl) (by decide) ?_
              refine sw_callV (B' := B0) (As := [vr (1), vi (1)]) (mc := 0) (ms := 0) (dX7_readGroup.at 34 rfl) lk_X7_43 (S_lt 3 (by decide)) (S_3 nw nx g) rfl rfl (Nat.le_of_ble_eq_true rfl) rfl (Nat.le_refl _) (Nat.le_refl _) ?_
              refine c_X7_pass_bad (j := j + 3) hS hn hB hT hv.1 hv.2.1 ?_
              replace hv := hv.2.2
              refine sw_aload_n (dX7_readGroup.at 35 rfl) rfl rfl ?_
              refine sw_dup (dX7_readGroup.at 36 rfl) (fun _ h => by cases h) ?_
              refine sw_getIE (w := ((ll : Nat) : Int)) (dX7_readGroup.at 37 rfl) fp_X7_33 (S_lt 3 (by decide)) (S_3 nw nx g) rfl rfl ?_
              refine sw_iconst (dX7_readGroup.at 38 rfl) ?_
              refine sw_iadd (dX7_readGroup.at 39 rfl) ?_
              refine sw_topI (y := ((ll + 1 : Nat) : Int)) (by first | rfl | (congr 1)) ?_
              refine sw_putI (dX7_readGroup.at 40 rfl) fp_X7_33 (S_lt 3 (by decide)) (S_3 nw nx g) rfl ?_
              refine SW.cg (M' := (S nw nx g, 78 + gn, (pm c tk_2 tf_2 tt_2 rr_2 (ll + 1) ((rkP nb n p).1) ((rkP nb n p).2.1) bd))) (congrArg (fun m => (S nw nx g, 78 + gn, m)) pm_32) ?_
              refine sw_iinc (lo' := [some (vr (3)), some (vr (1)), some (vi (((u + 1 : Nat) : Int)))]) (dX7_readGroup.at 41 rfl) rfl (by decide) rfl ?_
              refine sw_goto (tgt := 10) (dX7_readGroup.at 42 rfl) (by decide) ?_
              exact hv

def PRes (R : Nat × Int × Nat × Nat × (Nat → Nat)) (rr ll ff : Nat) (pl : Int) (bd : Nat → Nat) : Prop := ff = R.1 ∧ pl = R.2.1 ∧ (R.1 = 0 → rr = R.2.2.1 ∧ ll = R.2.2.2.1 ∧ bd = R.2.2.2.2)
theorem lp_X7_readGroup_b {G : GG} {j nw nx gn : Nat} {g : Nat → Sh} {c : Nat → Nat → Int} {post : Option AV → AM → Prop} {nb : Nat → Nat} {n : Nat} {tk : Nat} {tf : Nat} {tt : Nat} {rr : Nat} {ll : Nat} {ff : Nat} {pl : Int} {bd : Nat → Nat} {u : Nat} (hS : c 1 1 = ((n : Nat) : Int)) (hn : n ≤ 300) (hB : ∀ i, nb i < 256) (hT : ∀ i, i < 300 → c 2 i = sb (nb i)) (p1 : ff ≠ 0) (p2 : ff < 5) (p3 : u ≤ 300) (K : post none (S nw nx g, 78 + gn, (pm c tk tf tt rr ll ff pl bd))) : SW G (j + 6) mX7_readGroup 10 [some (vr (3)), some (vr (1)), some (vi (((u : Nat) : Int)))] [] (S nw nx g, 78 + gn, (pm c tk tf tt rr ll ff pl bd)) B0 post := by
  refine g_X7_readGroup_10b hS hn hB hT ?_
  refine ⟨?_, ⟨fun q => ?_, fun q => ⟨?_, ⟨fun q => ?_, fun q => ?_⟩⟩⟩⟩
  all_goals first | omega | exact K | (exfalso; omega)
set_option maxHeartbeats 16000000 in
theorem lp_X7_readGroup {G : GG} {j nw nx gn : Nat} {g : Nat → Sh} {c : Nat → Nat → Int} {post : Option AV → AM → Prop} {nb : Nat → Nat} {n : Nat} (hS : c 1 1 = ((n : Nat) : Int)) (hn : n ≤ 300) (hB : ∀ i, nb i < 256) (hT : ∀ i, i < 300 → c 2 i = sb (nb i)) : ∀ (k p ll rr u : Nat) (bd : Nat → Nat), u + k = 300 → u ≤ p → p ≤ n → rr ≤ 5 → (0 < ll ↔ 0 < rr) → ll ≤ u → BDok rr bd → (∀ (tk tf tt rr2 ll2 ff2 : Nat) (pl2 : Int) (bd2 : Nat → Nat), PRes (glP nb n k p ll rr bd) rr2 ll2 ff2 pl2 bd2 → post none (S nw nx g, 78 + gn, (pm c tk tf tt rr2 ll2 ff2 pl2 bd2))) → SW G (j + 6) mX7_readGroup 10 [some (vr (3)), some (vr (1)), some (vi (((u : Nat) : Int)))] [] (S nw nx g, 78 + gn, (pm c (tkK nb n p) (tkF nb n p) (tkT nb n p) rr ll 0 (-1) bd)) B0 post := by
  intro k
  induction k with
  | zero =>
    intro p ll rr u bd hu h1 h2 h3 h4 h6 h5 K
    refine g_X7_readGroup_10 hS hn hB hT ?_
    refine ⟨?_, ⟨fun q => ?_, fun q => ⟨?_, ⟨fun q => ?_, fun q => ⟨?_, ⟨fun q => ⟨?_, ?_, ?_, fun q => ⟨?_, ⟨fun q => ⟨?_, ?_⟩, fun q => ⟨?_, ?_⟩⟩⟩, fun q => fun tk_1 tf_1 tt_1 => fun q => ⟨?_, ⟨fun q => ⟨?_, ?_, ?_⟩, fun q => ⟨?_, ?_, ?_⟩⟩⟩⟩, fun q => ⟨?_, fun q => ⟨?_, ⟨fun q => ⟨?_, ?_⟩, fun q => ⟨?_, ?_⟩⟩⟩, fun q => fun tk_2 tf_2 tt_2 rr_2 => fun q => ⟨?_, ⟨fun q => ⟨?_, ?_, ?_⟩, fun q => ⟨?_, ?_, ?_⟩⟩⟩⟩⟩⟩⟩⟩⟩⟩
    all_goals first | omega | (exfalso; omega) | exact K _ _ _ _ _ _ _ _ ⟨rfl, rfl, fun _ => ⟨rfl, rfl, rfl⟩⟩
  | succ k ih =>
    intro p ll rr u bd hu h1 h2 h3 h4 h6 h5 K
    have r := rkP_ok (nb := nb) h2
    have b := bnP_ok (nb := nb) h2 h3 h5
    have hk := tkK_le (nb := nb) (n := n) (p := p)
    refine g_X7_readGroup_10 hS hn hB hT ?_
    by_cases c0 : tkK nb n p = 0
    · have e : glP nb n (k + 1) p ll rr bd = (0, -1, rr, ll, bd) := by rw [glP, if_pos c0]
      rw [e] at K
      refine ⟨?_, ⟨fun q => ?_, fun q => ⟨?_, ⟨fun q => ?_, fun q => ⟨?_, ⟨fun q => ⟨?_, ?_, ?_, fun q => ⟨?_, ⟨fun q => ⟨?_, ?_⟩, fun q => ⟨?_, ?_⟩⟩⟩, fun q => fun tk_1 tf_1 tt_1 => fun q => ⟨?_, ⟨fun q => ⟨?_, ?_, ?_⟩, fun q => ⟨?_, ?_, ?_⟩⟩⟩⟩, fun q => ⟨?_, fun q => ⟨?_, ⟨fun q => ⟨?_, ?_⟩, fun q => ⟨?_, ?_⟩⟩⟩, fun q => fun tk_2 tf_2 tt_2 rr_2 => fun q => ⟨?_, ⟨fun q => ⟨?_, ?_, ?_⟩, fun q => ⟨?_, ?_, ?_⟩⟩⟩⟩⟩⟩⟩⟩⟩⟩
      all_goals first | omega | (exfalso; omega) | exact K _ _ _ _ _ _ _ _ ⟨rfl, rfl, fun _ => ⟨rfl, rfl, rfl⟩⟩
    · have hgt := tkT_gt h2 c0
      by_cases c1 : ll = 0
      · by_cases c2 : (rkP nb n p).1 = 0
        · have r2 := r.2 c2
          have hk2 := tkK_le (nb := nb) (n := n) (p := (rkP nb n p).2.2.1)
          have t2 := tkT_le (nb := nb) r2.2.1
          by_cases c3 : tkK nb n (rkP nb n p).2.2.1 = 3
          · have e : glP nb n (k + 1) p ll rr bd = glP nb n k (tkT nb n (rkP nb n p).2.2.1) (ll + 1) (rkP nb n p).2.2.2 bd := by rw [glP, if_neg c0, if_pos c1, if_neg (not_not_intro c2), if_pos c3]
            rw [e] at K
            have t3 := tkT_gt r2.2.1 (by rw [c3]; decide)
            have hb2 : BDok (rkP nb n p).2.2.2 bd := ⟨h5.1, h5.2.1, fun a b ha hb3 hz => h5.2.2 a b ha hb3 (by omega)⟩
            refine ⟨?_, ⟨fun q => ?_, fun q => ⟨?_, ⟨fun q => ?_, fun q => ⟨?_, ⟨fun q => ⟨?_, ?_, ?_, fun q => ⟨?_, ⟨fun q => ⟨?_, ?_⟩, fun q => ⟨?_, ?_⟩⟩⟩, fun q => fun tk_1 tf_1 tt_1 => fun q => ⟨?_, ⟨fun q => ⟨?_, ?_, ?_⟩, fun q => ⟨?_, ?_, ?_⟩⟩⟩⟩, fun q => ⟨?_, fun q => ⟨?_, ⟨fun q => ⟨?_, ?_⟩, fun q => ⟨?_, ?_⟩⟩⟩, fun q => fun tk_2 tf_2 tt_2 rr_2 => fun q => ⟨?_, ⟨fun q => ⟨?_, ?_, ?_⟩, fun q => ⟨?_, ?_, ?_⟩⟩⟩⟩⟩⟩⟩⟩⟩⟩
            all_goals first | omega | assumption | (exfalso; omega) | exact ih _ _ _ _ _ (by omega) (by omega) (by omega) (by omega) (by omega) (by omega) hb2 K
          · have e : glP nb n (k + 1) p ll rr bd = (1, ((tkF nb n (rkP nb n p).2.2.1 : Nat) : Int), 0, 0, bd) := by rw [glP, if_neg c0, if_pos c1, if_neg (not_not_intro c2), if_neg c3]
            rw [e] at K
            refine ⟨?_, ⟨fun q => ?_, fun q => ⟨?_, ⟨fun q => ?_, fun q => ⟨?_, ⟨fun q => ⟨?_, ?_, ?_, fun q => ⟨?_, ⟨fun q => ⟨?_, ?_⟩, fun q => ⟨?_, ?_⟩⟩⟩, fun q => fun tk_1 tf_1 tt_1 => fun q => ⟨?_, ⟨fun q => ⟨?_, ?_, ?_⟩, fun q => ⟨?_, ?_, ?_⟩⟩⟩⟩, fun q => ⟨?_, fun q => ⟨?_, ⟨fun q => ⟨?_, ?_⟩, fun q => ⟨?_, ?_⟩⟩⟩, fun q => fun tk_2 tf_2 tt_2 rr_2 => fun q => ⟨?_, ⟨fun q => ⟨?_, ?_, ?_⟩, fun q => ⟨?_, ?_, ?_⟩⟩⟩⟩⟩⟩⟩⟩⟩⟩
            all_goals first | omega | assumption | (exfalso; omega) | exact lp_X7_readGroup_b hS hn hB hT yf1 zf1 (by omega) (K _ _ _ _ _ _ _ _ ⟨rfl, rfl, fun h => absurd h yf1⟩)
        · have e : glP nb n (k + 1) p ll rr bd = ((rkP nb n p).1, (rkP nb n p).2.1, 0, 0, bd) := by rw [glP, if_neg c0, if_pos c1, if_pos c2]
          rw [e] at K
          refine ⟨?_, ⟨fun q => ?_, fun q => ⟨?_, ⟨fun q => ?_, fun q => ⟨?_, ⟨fun q => ⟨?_, ?_, ?_, fun q => ⟨?_, ⟨fun q => ⟨?_, ?_⟩, fun q => ⟨?_, ?_⟩⟩⟩, fun q => fun tk_1 tf_1 tt_1 => fun q => ⟨?_, ⟨fun q => ⟨?_, ?_, ?_⟩, fun q => ⟨?_, ?_, ?_⟩⟩⟩⟩, fun q => ⟨?_, fun q => ⟨?_, ⟨fun q => ⟨?_, ?_⟩, fun q => ⟨?_, ?_⟩⟩⟩, fun q => fun tk_2 tf_2 tt_2 rr_2 => fun q => ⟨?_, ⟨fun q => ⟨?_, ?_, ?_⟩, fun q => ⟨?_, ?_, ?_⟩⟩⟩⟩⟩⟩⟩⟩⟩⟩
          all_goals first | omega | assumption | (exfalso; omega) | exact r.1 | exact lp_X7_readGroup_b hS hn hB hT c2 r.1 (by omega) (K _ _ _ _ _ _ _ _ ⟨rfl, rfl, fun h => absurd h c2⟩)
      · by_cases c2 : (bnP nb n p rr bd).1 = 0
        · have r2 := b.2 c2
          have hk2 := tkK_le (nb := nb) (n := n) (p := (bnP nb n p rr bd).2.2.1)
          have t2 := tkT_le (nb := nb) r2.2.1
          by_cases c3 : tkK nb n (bnP nb n p rr bd).2.2.1 = 3
          · have e : glP nb n (k + 1) p ll rr bd = glP nb n k (tkT nb n (bnP nb n p rr bd).2.2.1) (ll + 1) rr (bnP nb n p rr bd).2.2.2 := by rw [glP, if_neg c0, if_neg c1, if_neg (not_not_intro c2), if_pos c3]
            rw [e] at K
            have t3 := tkT_gt r2.2.1 (by rw [c3]; decide)
            refine ⟨?_, ⟨fun q => ?_, fun q => ⟨?_, ⟨fun q => ?_, fun q => ⟨?_, ⟨fun q => ⟨?_, ?_, ?_, fun q => ⟨?_, ⟨fun q => ⟨?_, ?_⟩, fun q => ⟨?_, ?_⟩⟩⟩, fun q => fun tk_1 tf_1 tt_1 => fun q => ⟨?_, ⟨fun q => ⟨?_, ?_, ?_⟩, fun q => ⟨?_, ?_, ?_⟩⟩⟩⟩, fun q => ⟨?_, fun q => ⟨?_, ⟨fun q => ⟨?_, ?_⟩, fun q => ⟨?_, ?_⟩⟩⟩, fun q => fun tk_2 tf_2 tt_2 rr_2 => fun q => ⟨?_, ⟨fun q => ⟨?_, ?_, ?_⟩, fun q => ⟨?_, ?_, ?_⟩⟩⟩⟩⟩⟩⟩⟩⟩⟩
            all_goals first | omega | assumption | (exfalso; omega) | exact ih _ _ _ _ _ (by omega) (by omega) (by omega) (by omega) (by omega) (by omega) r2.2.2 K
          · have e : glP nb n (k + 1) p ll rr bd = (1, ((tkF nb n (bnP nb n p rr bd).2.2.1 : Nat) : Int), 0, 0, bd) := by rw [glP, if_neg c0, if_neg c1, if_neg (not_not_intro c2), if_neg c3]
            rw [e] at K
            refine ⟨?_, ⟨fun q => ?_, fun q => ⟨?_, ⟨fun q => ?_, fun q => ⟨?_, ⟨fun q => ⟨?_, ?_, ?_, fun q => ⟨?_, ⟨fun q => ⟨?_, ?_⟩, fun q => ⟨?_, ?_⟩⟩⟩, fun q => fun tk_1 tf_1 tt_1 => fun q => ⟨?_, ⟨fun q => ⟨?_, ?_, ?_⟩, fun q => ⟨?_, ?_, ?_⟩⟩⟩⟩, fun q => ⟨?_, fun q => ⟨?_, ⟨fun q => ⟨?_, ?_⟩, fun q => ⟨?_, ?_⟩⟩⟩, fun q => fun tk_2 tf_2 tt_2 rr_2 => fun q => ⟨?_, ⟨fun q => ⟨?_, ?_, ?_⟩, fun q => ⟨?_, ?_, ?_⟩⟩⟩⟩⟩⟩⟩⟩⟩⟩
            all_goals first | omega | assumption | (exfalso; omega) | exact lp_X7_readGroup_b hS hn hB hT yf1 zf1 (by omega) (K _ _ _ _ _ _ _ _ ⟨rfl, rfl, fun h => absurd h yf1⟩)
        · have e : glP nb n (k + 1) p ll rr bd = ((bnP nb n p rr bd).1, (bnP nb n p rr bd).2.1, 0, 0, bd) := by rw [glP, if_neg c0, if_neg c1, if_pos c2]
          rw [e] at K
          refine ⟨?_, ⟨fun q => ?_, fun q => ⟨?_, ⟨fun q => ?_, fun q => ⟨?_, ⟨fun q => ⟨?_, ?_, ?_, fun q => ⟨?_, ⟨fun q => ⟨?_, ?_⟩, fun q => ⟨?_, ?_⟩⟩⟩, fun q => fun tk_1 tf_1 tt_1 => fun q => ⟨?_, ⟨fun q => ⟨?_, ?_, ?_⟩, fun q => ⟨?_, ?_, ?_⟩⟩⟩⟩, fun q => ⟨?_, fun q => ⟨?_, ⟨fun q => ⟨?_, ?_⟩, fun q => ⟨?_, ?_⟩⟩⟩, fun q => fun tk_2 tf_2 tt_2 rr_2 => fun q => ⟨?_, ⟨fun q => ⟨?_, ?_, ?_⟩, fun q => ⟨?_, ?_, ?_⟩⟩⟩⟩⟩⟩⟩⟩⟩⟩
          all_goals first | omega | assumption | (exfalso; omega) | exact b.1 | exact lp_X7_readGroup_b hS hn hB hT c2 b.1 (by omega) (K _ _ _ _ _ _ _ _ ⟨rfl, rfl, fun h => absurd h c2⟩)
theorem BDok_0 : BDok 0 (fun _ => 0) := ⟨fun _ _ => Or.inl rfl, fun _ _ _ _ => rfl, fun _ _ _ _ _ => rfl⟩
theorem c_X7_readGroup {G : GG} {j nw nx gn : Nat} {g : Nat → Sh} {c : Nat → Nat → Int} {post : Option AV → AM → Prop} {nb : Nat → Nat} {n : Nat} {tk : Nat} {tf : Nat} {tt : Nat} {rr : Nat} {ll : Nat} {ff : Nat} {pl : Int} {bd : Nat → Nat} (hS : c 1 1 = ((n : Nat) : Int)) (hn : n ≤ 300) (hB : ∀ i, nb i < 256) (hT : ∀ i, i < 300 → c 2 i = sb (nb i)) (K : ∀ (tk tf tt rr2 ll2 ff2 : Nat) (pl2 : Int) (bd2 : Nat → Nat), PRes (glP nb n 300 0 0 0 (fun _ => 0)) rr2 ll2 ff2 pl2 bd2 → post none (S nw nx g, 78 + gn, (pm c tk tf tt rr2 ll2 ff2 pl2 bd2))) : SM G (j + 7) mX7_readGroup [vr (3), vr (1)] (S nw nx g, 78 + gn, (pm c tk tf tt rr ll ff pl bd)) 0 0 post := by
  refine sm_of wX7_readGroup rfl (Nat.le_of_ble_eq_true rfl) ?_
  refine g_X7_readGroup_0 hS hn hB hT ?_
  exact lp_X7_readGroup hS hn hB hT 300 0 0 0 0 _ rfl (Nat.le_refl _) (Nat.zero_le _) (by decide) (by decide) (Nat.le_refl _) BDok_0 K

