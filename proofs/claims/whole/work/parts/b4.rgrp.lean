set_option maxHeartbeats 2000000 in
set_option maxRecDepth 20000 in
theorem g_X9_readsGroup_0 {G : GG} {j nw nx gn : Nat} {g : Nat → Sh} {c : Nat → Nat → Int} {post : Option AV → AM → Prop} {nb : Nat → Nat} {n : Nat} {p : Nat} {fk : Nat} {fp : Int} {rk : Nat} {ln : Nat} {bd : Nat → Nat} (hS : c 49 1 = ((n : Nat) : Int)) (hn : n ≤ 300) (hB : ∀ i, nb i < 256) (hT : ∀ i, i < 300 → c 50 i = ((nb i : Nat) : Int))  (hv : ((tkF nb n p) ≤ (tkT nb n p)) ∧ ((tkT nb n p) ≤ n) ∧ ((tkK nb n p) < 5) ∧ ((p ≤ n) ∧ (((wdG nb (tkK nb n p) (tkF nb n p) (tkT nb n p)) = true) → ((tkT nb n p) ≤ n) ∧ (1 < 100) ∧ (5 < 100) ∧ ((tkK nb n (tkT nb n p) = 2 ∧ 1 ≤ vlT nb n (tkT nb n p) ∧ vlT nb n (tkT nb n p) ≤ 5) → post none (S nw nx g, 78 + gn, (rm c (tkT nb n (tkT nb n (tkT nb n p))) (tkF nb n (tkT nb n (tkT nb n p))) (tkK nb n (tkT nb n (tkT nb n p))) (vlS nb n (tkT nb n (tkT nb n p))) false fk fp (vlT nb n (tkT nb n p)) ln (rbd bd)))) ∧ ((tkK nb n (tkT nb n p) ≠ 2) → ∀ y_1 : Nat, (y_1 ≤ 99999) → post none (S nw nx g, 78 + gn, (rm c (tkT nb n (tkT nb n p)) (tkF nb n (tkT nb n p)) (tkK nb n (tkT nb n p)) (vlS nb n (tkT nb n p)) true 1 ((tkF nb n (tkT nb n p) : Nat) : Int) y_1 ln (rbd bd)))) ∧ ((tkK nb n (tkT nb n p) = 2 ∧ ¬ (1 ≤ vlT nb n (tkT nb n p) ∧ vlT nb n (tkT nb n p) ≤ 5)) → ∀ y_2 : Nat, (y_2 ≤ 99999) → post none (S nw nx g, 78 + gn, (rm c (tkT nb n (tkT nb n p)) (tkF nb n (tkT nb n p)) (tkK nb n (tkT nb n p)) (vlS nb n (tkT nb n p)) true 2 ((tkF nb n (tkT nb n p) : Nat) : Int) y_2 ln (rbd bd))))) ∧ (((wdG nb (tkK nb n p) (tkF nb n p) (tkT nb n p)) = false) → post none (S nw nx g, 78 + gn, (rm c (tkT nb n p) (tkF nb n p) (tkK nb n p) (vlS nb n p) true 1 ((tkF nb n p : Nat) : Int) 1 ln (rbd bd)))))) :
    SW G (j + 5) mX9_readsGroup 0 [some (vr (49))] [] (S nw nx g, 78 + gn, (rm c (tkT nb n p) (tkF nb n p) (tkK nb n p) (vlS nb n p) false fk fp rk ln (rbd bd))) B0 post := by
  refine sw_aload_n (dX9_readsGroup.at 0 rfl) rfl rfl ?_
  refine sw_aload_n (dX9_readsGroup.at 1 rfl) rfl rfl ?_
  refine sw_ldcS (k := 2) (tx := "group") (dX9_readsGroup.at 2 rfl) (fun _ _ h => h.2.2.1) ?_
  refine sw_callV (B' := B0) (As := [vf 2]) (mc := 0) (ms := 0) (dX9_readsGroup.at 3 rfl) lk_X9_164 (S_lt 49 (by decide)) (S_49 nw nx g) rfl rfl (Nat.le_of_ble_eq_true rfl) rfl (Nat.le_refl _) (Nat.le_refl _) ?_
  refine c_X9_isWord_2 (j := j + 0) hS hn hB hT hv.1 hv.2.1 hv.2.2.1 ?_
  replace hv := hv.2.2.2
  refine sw_callV (B' := B0) (As := [vi (bz (wdG nb (tkK nb n p) (tkF nb n p) (tkT nb n p)))]) (mc := 0) (ms := 0) (dX9_readsGroup.at 4 rfl) lk_X9_155 (S_lt 49 (by decide)) (S_49 nw nx g) rfl rfl (Nat.le_of_ble_eq_true rfl) rfl (Nat.le_refl _) (Nat.le_refl _) ?_
  refine c_X9_passes_fz (j := j + 1) hS hn hB hT hv.1 (fun q => ?_) (fun q => ?_) 
  · replace hv := hv.2.1 q
    refine sw_aload_n (dX9_readsGroup.at 5 rfl) rfl rfl ?_
    refine sw_aload_n (dX9_readsGroup.at 6 rfl) rfl rfl ?_
    refine sw_iconst (dX9_readsGroup.at 7 rfl) ?_
    refine sw_iconst (dX9_readsGroup.at 8 rfl) ?_
    refine sw_callV (B' := B0) (As := [vi (1), vi (5)]) (mc := 0) (ms := 0) (dX9_readsGroup.at 9 rfl) lk_X9_168 (S_lt 49 (by decide)) (S_49 nw nx g) rfl rfl (Nat.le_of_ble_eq_true rfl) rfl (Nat.le_refl _) (Nat.le_refl _) ?_
    refine c_X9_reads_f (lo := 1) (hi := 5) (j := j + 0) hS hn hB hT hv.1 hv.2.1 hv.2.2.1 (fun q => ?_) (fun q y_1 q2 => ?_) (fun q y_2 q2 => ?_) 
    · replace hv := hv.2.2.2.1 q
      refine sw_putI (dX9_readsGroup.at 10 rfl) fp_X9_159 (S_lt 49 (by decide)) (S_49 nw nx g) rfl ?_
      refine SW.cg (M' := (S nw nx g, 78 + gn, (rm c (tkT nb n (tkT nb n (tkT nb n p))) (tkF nb n (tkT nb n (tkT nb n p))) (tkK nb n (tkT nb n (tkT nb n p))) (vlS nb n (tkT nb n (tkT nb n p))) false fk fp (vlT nb n (tkT nb n p)) ln (rbd bd)))) (congrArg (fun m => (S nw nx g, 78 + gn, m)) rm_4) ?_
      exact sw_vret (dX9_readsGroup.at 11 rfl) rfl (Nat.le_refl _) (Nat.le_refl _) hv
    · replace hv := hv.2.2.2.2.1 q y_1 q2
      refine sw_putI (dX9_readsGroup.at 10 rfl) fp_X9_159 (S_lt 49 (by decide)) (S_49 nw nx g) rfl ?_
      refine SW.cg (M' := (S nw nx g, 78 + gn, (rm c (tkT nb n (tkT nb n p)) (tkF nb n (tkT nb n p)) (tkK nb n (tkT nb n p)) (vlS nb n (tkT nb n p)) true 1 ((tkF nb n (tkT nb n p) : Nat) : Int) y_1 ln (rbd bd)))) (congrArg (fun m => (S nw nx g, 78 + gn, m)) rm_4) ?_
      exact sw_vret (dX9_readsGroup.at 11 rfl) rfl (Nat.le_refl _) (Nat.le_refl _) hv
    · replace hv := hv.2.2.2.2.2 q y_2 q2
      refine sw_putI (dX9_readsGroup.at 10 rfl) fp_X9_159 (S_lt 49 (by decide)) (S_49 nw nx g) rfl ?_
      refine SW.cg (M' := (S nw nx g, 78 + gn, (rm c (tkT nb n (tkT nb n p)) (tkF nb n (tkT nb n p)) (tkK nb n (tkT nb n p)) (vlS nb n (tkT nb n p)) true 2 ((tkF nb n (tkT nb n p) : Nat) : Int) y_2 ln (rbd bd)))) (congrArg (fun m => (S nw nx g, 78 + gn, m)) rm_4) ?_
      exact sw_vret (dX9_readsGroup.at 11 rfl) rfl (Nat.le_refl _) (Nat.le_refl _) hv
  · replace hv := hv.2.2 q
    refine sw_aload_n (dX9_readsGroup.at 5 rfl) rfl rfl ?_
    refine sw_aload_n (dX9_readsGroup.at 6 rfl) rfl rfl ?_
    refine sw_iconst (dX9_readsGroup.at 7 rfl) ?_
    refine sw_iconst (dX9_readsGroup.at 8 rfl) ?_
    refine sw_callV (B' := B0) (As := [vi (1), vi (5)]) (mc := 0) (ms := 0) (dX9_readsGroup.at 9 rfl) lk_X9_168 (S_lt 49 (by decide)) (S_49 nw nx g) rfl rfl (Nat.le_of_ble_eq_true rfl) rfl (Nat.le_refl _) (Nat.le_refl _) ?_
    refine c_X9_reads_t (lo := 1) (hi := 5) (j := j + 0) hS hn hB hT ?_
    refine sw_putI (dX9_readsGroup.at 10 rfl) fp_X9_159 (S_lt 49 (by decide)) (S_49 nw nx g) rfl ?_
    refine SW.cg (M' := (S nw nx g, 78 + gn, (rm c (tkT nb n p) (tkF nb n p) (tkK nb n p) (vlS nb n p) true 1 ((tkF nb n p : Nat) : Int) 1 ln (rbd bd)))) (congrArg (fun m => (S nw nx g, 78 + gn, m)) rm_4) ?_
    exact sw_vret (dX9_readsGroup.at 11 rfl) rfl (Nat.le_refl _) (Nat.le_refl _) hv

set_option maxHeartbeats 8000000 in
theorem c_X9_readsGroup {G : GG} {j nw nx gn : Nat} {g : Nat → Sh} {c : Nat → Nat → Int} {post : Option AV → AM → Prop} {nb : Nat → Nat} {n : Nat} {p : Nat} {fk : Nat} {fp : Int} {rk : Nat} {ln : Nat} {bd : Nat → Nat} (hS : c 49 1 = ((n : Nat) : Int)) (hn : n ≤ 300) (hB : ∀ i, nb i < 256) (hT : ∀ i, i < 300 → c 50 i = ((nb i : Nat) : Int)) (hp : p ≤ n) (K1 : (rkP nb n p).1 = 0 → post none (S nw nx g, 78 + gn, (rm c (tkT nb n ((rkP nb n p).2.2.1)) (tkF nb n ((rkP nb n p).2.2.1)) (tkK nb n ((rkP nb n p).2.2.1)) (vlS nb n ((rkP nb n p).2.2.1)) false fk fp ((rkP nb n p).2.2.2) ln (rbd bd)))) (K2 : (rkP nb n p).1 ≠ 0 → ∀ ra rb rt rv rk2 : Nat, rt < 5 → post none (S nw nx g, 78 + gn, (rm c ra rb rt rv true (rkP nb n p).1 (rkP nb n p).2.1 rk2 ln (rbd bd)))) : SM G (j + 6) mX9_readsGroup [vr (49)] (S nw nx g, 78 + gn, (rm c (tkT nb n p) (tkF nb n p) (tkK nb n p) (vlS nb n p) false fk fp rk ln (rbd bd))) 0 0 post := by
  refine sm_of wX9_readsGroup rfl (Nat.le_of_ble_eq_true rfl) ?_
  have h1 := tkT_le (nb := nb) hp
  have h2 := tkT_le (nb := nb) h1.2
  have h3 := tkT_le (nb := nb) h2.2
  have h4 := tkT_le (nb := nb) h3.2
  have h5 := tkT_le (nb := nb) h4.2
  have hk := tkK_le (nb := nb) (n := n) (p := p)
  have hF := tkF_le (nb := nb) hp
  refine g_X9_readsGroup_0 hS hn hB hT ?_
  cases hw : wdG nb (tkK nb n p) (tkF nb n p) (tkT nb n p) with
  | false =>
    have e : (rkP nb n p) = (1, ((tkF nb n p : Nat) : Int), 0, 0) := by rw [rkP, if_pos hw]
    rw [e] at K2
    refine ⟨?_, ?_, ?_, ⟨?_, fun q => ⟨?_, ?_, ?_, fun q => ?_, fun q => fun y_1 => fun q => ?_, fun q => fun y_2 => fun q => ?_⟩, fun q => ?_⟩⟩
    all_goals first | omega | decide | exact K2 yf1 _ _ _ _ _ tkK_le | (exfalso; simp only [hw] at *; omega) | (exfalso; rw [hw] at *; contradiction)
  | true =>
    by_cases a1 : tkK nb n (tkT nb n p) = 2
    · by_cases a2 : 1 ≤ vlT nb n (tkT nb n p) ∧ vlT nb n (tkT nb n p) ≤ 5
      · have e : (rkP nb n p) = (0, 0, tkT nb n (tkT nb n p), vlT nb n (tkT nb n p)) := by rw [rkP, if_neg (by rw [hw]; decide), if_neg (not_not_intro a1), if_neg (not_not_intro a2)]
        rw [e] at K1
        refine ⟨?_, ?_, ?_, ⟨?_, fun q => ⟨?_, ?_, ?_, fun q => ?_, fun q => fun y_1 => fun q => ?_, fun q => fun y_2 => fun q => ?_⟩, fun q => ?_⟩⟩
        all_goals first | omega | decide | exact K1 rfl | (exfalso; omega) | (exfalso; rw [hw] at *; contradiction)
      · have e : (rkP nb n p) = (2, ((tkF nb n (tkT nb n p) : Nat) : Int), 0, 0) := by rw [rkP, if_neg (by rw [hw]; decide), if_neg (not_not_intro a1), if_pos a2]
        rw [e] at K2
        refine ⟨?_, ?_, ?_, ⟨?_, fun q => ⟨?_, ?_, ?_, fun q => ?_, fun q => fun y_1 => fun q => ?_, fun q => fun y_2 => fun q => ?_⟩, fun q => ?_⟩⟩
        all_goals first | omega | decide | exact K2 yf2 _ _ _ _ _ tkK_le | (exfalso; omega) | (exfalso; rw [hw] at *; contradiction)
    · have e : (rkP nb n p) = (1, ((tkF nb n (tkT nb n p) : Nat) : Int), 0, 0) := by rw [rkP, if_neg (by rw [hw]; decide), if_pos a1]
      rw [e] at K2
      refine ⟨?_, ?_, ?_, ⟨?_, fun q => ⟨?_, ?_, ?_, fun q => ?_, fun q => fun y_1 => fun q => ?_, fun q => fun y_2 => fun q => ?_⟩, fun q => ?_⟩⟩
      all_goals first | omega | decide | exact K2 yf1 _ _ _ _ _ tkK_le | (exfalso; omega) | (exfalso; rw [hw] at *; contradiction)

set_option maxHeartbeats 2000000 in
set_option maxRecDepth 20000 in
theorem g_X9_readsBond_0 {G : GG} {j nw nx gn : Nat} {g : Nat → Sh} {c : Nat → Nat → Int} {post : Option AV → AM → Prop} {nb : Nat → Nat} {n : Nat} {p : Nat} {fk : Nat} {fp : Int} {rk : Nat} {ln : Nat} {bd : Nat → Nat} (hS : c 49 1 = ((n : Nat) : Int)) (hn : n ≤ 300) (hB : ∀ i, nb i < 256) (hT : ∀ i, i < 300 → c 50 i = ((nb i : Nat) : Int))  (hv : ((tkF nb n p) ≤ (tkT nb n p)) ∧ ((tkT nb n p) ≤ n) ∧ ((tkK nb n p) < 5) ∧ ((p ≤ n) ∧ (((wdB nb (tkK nb n p) (tkF nb n p) (tkT nb n p)) = true) → ((tkT nb n p) ≤ n) ∧ (rk ≤ 5) ∧ ((ltP nb n (tkT nb n p) rk = 0) → ((tkT nb n (tkT nb n p)) ≤ n) ∧ (rk ≤ 5) ∧ (∀ i, i < 25 → bd i = 0 ∨ (3 ≤ bd i ∧ bd i ≤ 12)) ∧ ((ltV nb n (tkT nb n p)) < 5) ∧ ((rbd bd) = rbd bd) ∧ ((ltQ nb n (tkT nb n (tkT nb n p)) rk (ltV nb n (tkT nb n p)) bd = 0) → ((tkT nb n (tkT nb n (tkT nb n p))) ≤ n) ∧ (3 < 100) ∧ (12 < 100) ∧ ((tkK nb n (tkT nb n (tkT nb n (tkT nb n p))) = 2 ∧ 3 ≤ vlT nb n (tkT nb n (tkT nb n (tkT nb n p))) ∧ vlT nb n (tkT nb n (tkT nb n (tkT nb n p))) ≤ 12) → ((5 * (ltV nb n (tkT nb n p))) + (ltV nb n (tkT nb n (tkT nb n p))) < 25) ∧ (((5 * (ltV nb n (tkT nb n (tkT nb n p)))) + (ltV nb n (tkT nb n p)) < 25) ∧ (post none (S nw nx g, 78 + gn, (rm c (tkT nb n (tkT nb n (tkT nb n (tkT nb n (tkT nb n p))))) (tkF nb n (tkT nb n (tkT nb n (tkT nb n (tkT nb n p))))) (tkK nb n (tkT nb n (tkT nb n (tkT nb n (tkT nb n p))))) (vlS nb n (tkT nb n (tkT nb n (tkT nb n (tkT nb n p))))) false fk fp rk ln (uN (uN (rbd bd) ((5 * (ltV nb n (tkT nb n p))) + (ltV nb n (tkT nb n (tkT nb n p)))) (vlT nb n (tkT nb n (tkT nb n (tkT nb n p))))) ((5 * (ltV nb n (tkT nb n (tkT nb n p)))) + (ltV nb n (tkT nb n p))) (vlT nb n (tkT nb n (tkT nb n (tkT nb n p)))))))))) ∧ ((tkK nb n (tkT nb n (tkT nb n (tkT nb n p))) ≠ 2) → ∀ y_1 : Nat, (y_1 ≤ 99999) → post none (S nw nx g, 78 + gn, (rm c (tkT nb n (tkT nb n (tkT nb n (tkT nb n p)))) (tkF nb n (tkT nb n (tkT nb n (tkT nb n p)))) (tkK nb n (tkT nb n (tkT nb n (tkT nb n p)))) (vlS nb n (tkT nb n (tkT nb n (tkT nb n p)))) true 1 ((tkF nb n (tkT nb n (tkT nb n (tkT nb n p))) : Nat) : Int) rk ln (rbd bd)))) ∧ ((tkK nb n (tkT nb n (tkT nb n (tkT nb n p))) = 2 ∧ ¬ (3 ≤ vlT nb n (tkT nb n (tkT nb n (tkT nb n p))) ∧ vlT nb n (tkT nb n (tkT nb n (tkT nb n p))) ≤ 12)) → ∀ y_2 : Nat, (y_2 ≤ 99999) → post none (S nw nx g, 78 + gn, (rm c (tkT nb n (tkT nb n (tkT nb n (tkT nb n p)))) (tkF nb n (tkT nb n (tkT nb n (tkT nb n p)))) (tkK nb n (tkT nb n (tkT nb n (tkT nb n p)))) (vlS nb n (tkT nb n (tkT nb n (tkT nb n p)))) true 2 ((tkF nb n (tkT nb n (tkT nb n (tkT nb n p))) : Nat) : Int) rk ln (rbd bd))))) ∧ ((ltQ nb n (tkT nb n (tkT nb n p)) rk (ltV nb n (tkT nb n p)) bd = 1) → post none (S nw nx g, 78 + gn, (rm c (tkT nb n (tkT nb n (tkT nb n p))) (tkF nb n (tkT nb n (tkT nb n p))) (tkK nb n (tkT nb n (tkT nb n p))) (vlS nb n (tkT nb n (tkT nb n p))) true 1 ((tkF nb n (tkT nb n (tkT nb n p)) : Nat) : Int) rk ln (rbd bd)))) ∧ ((ltQ nb n (tkT nb n (tkT nb n p)) rk (ltV nb n (tkT nb n p)) bd = 2) → post none (S nw nx g, 78 + gn, (rm c (tkT nb n (tkT nb n (tkT nb n p))) (tkF nb n (tkT nb n (tkT nb n p))) (tkK nb n (tkT nb n (tkT nb n p))) (vlS nb n (tkT nb n (tkT nb n p))) true 2 ((tkF nb n (tkT nb n (tkT nb n p)) : Nat) : Int) rk ln (rbd bd))))) ∧ ((ltP nb n (tkT nb n p) rk = 1) → post none (S nw nx g, 78 + gn, (rm c (tkT nb n (tkT nb n p)) (tkF nb n (tkT nb n p)) (tkK nb n (tkT nb n p)) (vlS nb n (tkT nb n p)) true 1 ((tkF nb n (tkT nb n p) : Nat) : Int) rk ln (rbd bd)))) ∧ ((ltP nb n (tkT nb n p) rk = 2) → post none (S nw nx g, 78 + gn, (rm c (tkT nb n (tkT nb n p)) (tkF nb n (tkT nb n p)) (tkK nb n (tkT nb n p)) (vlS nb n (tkT nb n p)) true 2 ((tkF nb n (tkT nb n p) : Nat) : Int) rk ln (rbd bd))))) ∧ (((wdB nb (tkK nb n p) (tkF nb n p) (tkT nb n p)) = false) → post none (S nw nx g, 78 + gn, (rm c (tkT nb n p) (tkF nb n p) (tkK nb n p) (vlS nb n p) true 1 ((tkF nb n p : Nat) : Int) rk ln (rbd bd)))))) :
    SW G (j + 5) mX9_readsBond 0 [some (vr (49)), none, none, none] [] (S nw nx g, 78 + gn, (rm c (tkT nb n p) (tkF nb n p) (tkK nb n p) (vlS nb n p) false fk fp rk ln (rbd bd))) B0 post := by
  refine sw_aload_n (dX9_readsBond.at 0 rfl) rfl rfl ?_
  refine sw_aload_n (dX9_readsBond.at 1 rfl) rfl rfl ?_
  refine sw_ldcS (k := 3) (tx := "bond") (dX9_readsBond.at 2 rfl) (fun _ _ h => h.2.2.2) ?_
  refine sw_callV (B' := B0) (As := [vf 3]) (mc := 0) (ms := 0) (dX9_readsBond.at 3 rfl) lk_X9_164 (S_lt 49 (by decide)) (S_49 nw nx g) rfl rfl (Nat.le_of_ble_eq_true rfl) rfl (Nat.le_refl _) (Nat.le_refl _) ?_
  refine c_X9_isWord_3 (j := j + 0) hS hn hB hT hv.1 hv.2.1 hv.2.2.1 ?_
  replace hv := hv.2.2.2
  refine sw_callV (B' := B0) (As := [vi (bz (wdB nb (tkK nb n p) (tkF nb n p) (tkT nb n p)))]) (mc := 0) (ms := 0) (dX9_readsBond.at 4 rfl) lk_X9_155 (S_lt 49 (by decide)) (S_49 nw nx g) rfl rfl (Nat.le_of_ble_eq_true rfl) rfl (Nat.le_refl _) (Nat.le_refl _) ?_
  refine c_X9_passes_fz (j := j + 1) hS hn hB hT hv.1 (fun q => ?_) (fun q => ?_) 
  · replace hv := hv.2.1 q
    refine sw_aload_n (dX9_readsBond.at 5 rfl) rfl rfl ?_
    refine sw_iconst (dX9_readsBond.at 6 rfl) ?_
    refine sw_callV (B' := B0) (As := [vi ((-1))]) (mc := 0) (ms := 0) (dX9_readsBond.at 7 rfl) lk_X9_173 (S_lt 49 (by decide)) (S_49 nw nx g) rfl rfl (Nat.le_of_ble_eq_true rfl) rfl (Nat.le_refl _) (Nat.le_refl _) ?_
    refine c_X9_readsLetter_m (j := j + 0) hS hn hB hT hv.1 hv.2.1 (fun q => ?_) (fun q => ?_) (fun q => ?_) 
    · replace hv := hv.2.2.1 q
      refine sw_istore_n (lo' := [some (vr (49)), some (vi (((ltV nb n (tkT nb n p) : Nat) : Int))), none, none]) (dX9_readsBond.at 8 rfl) rfl (by decide) rfl ?_
      refine sw_aload_n (dX9_readsBond.at 9 rfl) rfl rfl ?_
      refine sw_iload_n (dX9_readsBond.at 10 rfl) rfl rfl ?_
      refine sw_callV (B' := B0) (As := [vi (((ltV nb n (tkT nb n p) : Nat) : Int))]) (mc := 0) (ms := 0) (dX9_readsBond.at 11 rfl) lk_X9_173 (S_lt 49 (by decide)) (S_49 nw nx g) rfl rfl (Nat.le_of_ble_eq_true rfl) rfl (Nat.le_refl _) (Nat.le_refl _) ?_
      refine c_X9_readsLetter_n (a := (ltV nb n (tkT nb n p))) (bd := bd) (j := j + 0) hS hn hB hT hv.1 hv.2.1 hv.2.2.1 hv.2.2.2.1 hv.2.2.2.2.1 (fun q => ?_) (fun q => ?_) (fun q => ?_) 
      · replace hv := hv.2.2.2.2.2.1 q
        refine sw_istore_n (lo' := [some (vr (49)), some (vi (((ltV nb n (tkT nb n p) : Nat) : Int))), some (vi (((ltV nb n (tkT nb n (tkT nb n p)) : Nat) : Int))), none]) (dX9_readsBond.at 12 rfl) rfl (by decide) rfl ?_
        refine sw_aload_n (dX9_readsBond.at 13 rfl) rfl rfl ?_
        refine sw_iconst (dX9_readsBond.at 14 rfl) ?_
        refine sw_bipush (dX9_readsBond.at 15 rfl) (by decide) ?_
        refine sw_callV (B' := B0) (As := [vi (3), vi (12)]) (mc := 0) (ms := 0) (dX9_readsBond.at 16 rfl) lk_X9_168 (S_lt 49 (by decide)) (S_49 nw nx g) rfl rfl (Nat.le_of_ble_eq_true rfl) rfl (Nat.le_refl _) (Nat.le_refl _) ?_
        refine c_X9_reads_f (lo := 3) (hi := 12) (j := j + 0) hS hn hB hT hv.1 hv.2.1 hv.2.2.1 (fun q => ?_) (fun q y_1 q2 => ?_) (fun q y_2 q2 => ?_) 
        · replace hv := hv.2.2.2.1 q
          refine sw_istore_n (lo' := [some (vr (49)), some (vi (((ltV nb n (tkT nb n p) : Nat) : Int))), some (vi (((ltV nb n (tkT nb n (tkT nb n p)) : Nat) : Int))), some (vi (((vlT nb n (tkT nb n (tkT nb n (tkT nb n p))) : Nat) : Int)))]) (dX9_readsBond.at 17 rfl) rfl (by decide) rfl ?_
          refine sw_aload_n (dX9_readsBond.at 18 rfl) rfl rfl ?_
          refine sw_getIE (w := bz (false)) (dX9_readsBond.at 19 rfl) fp_X9_131 (S_lt 49 (by decide)) (S_49 nw nx g) rfl rfl ?_
          refine sw_if_ne (tgt := 59) (dX9_readsBond.at 20 rfl) (by decide) (by decide) (fun q => ?_) (fun q => ?_)
          · exact absurd q (by decide)
          · clear q
            refine sw_aload_n (dX9_readsBond.at 21 rfl) rfl rfl ?_
            refine sw_getR (dX9_readsBond.at 22 rfl) fp_X9_17 (S_lt 49 (by decide)) (S_49 nw nx g) rfl rfl ?_
            refine sw_iconst (dX9_readsBond.at 23 rfl) ?_
            refine sw_iload_n (dX9_readsBond.at 24 rfl) rfl rfl ?_
            refine sw_imul (dX9_readsBond.at 25 rfl) ?_
            refine sw_topI (y := ((5 * (ltV nb n (tkT nb n p)) : Nat) : Int)) (by first | rfl | (congr 1)) ?_
            refine sw_iload_n (dX9_readsBond.at 26 rfl) rfl rfl ?_
            refine sw_iadd (dX9_readsBond.at 27 rfl) ?_
            refine sw_topI (y := (((5 * (ltV nb n (tkT nb n p))) + (ltV nb n (tkT nb n (tkT nb n p))) : Nat) : Int)) (by first | rfl | (congr 1)) ?_
            refine sw_iload_n (dX9_readsBond.at 28 rfl) rfl rfl ?_
            refine sw_iastN ((5 * (ltV nb n (tkT nb n p))) + (ltV nb n (tkT nb n (tkT nb n p)))) (dX9_readsBond.at 29 rfl) (S_lt 51 (by decide)) (S_51 nw nx g) (by decide) hv.1 ?_
            refine SW.cg (M' := (S nw nx g, 78 + gn, (rm c (tkT nb n (tkT nb n (tkT nb n (tkT nb n (tkT nb n p))))) (tkF nb n (tkT nb n (tkT nb n (tkT nb n (tkT nb n p))))) (tkK nb n (tkT nb n (tkT nb n (tkT nb n (tkT nb n p))))) (vlS nb n (tkT nb n (tkT nb n (tkT nb n (tkT nb n p))))) false fk fp rk ln (uN (rbd bd) ((5 * (ltV nb n (tkT nb n p))) + (ltV nb n (tkT nb n (tkT nb n p)))) (vlT nb n (tkT nb n (tkT nb n (tkT nb n p)))))))) (congrArg (fun m => (S nw nx g, 78 + gn, m)) (rm_a51 hv.1)) ?_
            replace hv := hv.2
            refine sw_aload_n (dX9_readsBond.at 30 rfl) rfl rfl ?_
            refine sw_getR (dX9_readsBond.at 31 rfl) fp_X9_17 (S_lt 49 (by decide)) (S_49 nw nx g) rfl rfl ?_
            refine sw_iconst (dX9_readsBond.at 32 rfl) ?_
            refine sw_iload_n (dX9_readsBond.at 33 rfl) rfl rfl ?_
            refine sw_imul (dX9_readsBond.at 34 rfl) ?_
            refine sw_topI (y := ((5 * (ltV nb n (tkT nb n (tkT nb n p))) : Nat) : Int)) (by first | rfl | (congr 1)) ?_
            refine sw_iload_n (dX9_readsBond.at 35 rfl) rfl rfl ?_
            refine sw_iadd (dX9_readsBond.at 36 rfl) ?_
            refine sw_topI (y := (((5 * (ltV nb n (tkT nb n (tkT nb n p)))) + (ltV nb n (tkT nb n p)) : Nat) : Int)) (by first | rfl | (congr 1)) ?_
            refine sw_iload_n (dX9_readsBond.at 37 rfl) rfl rfl ?_
            refine sw_iastN ((5 * (ltV nb n (tkT nb n (tkT nb n p)))) + (ltV nb n (tkT nb n p))) (dX9_readsBond.at 38 rfl) (S_lt 51 (by decide)) (S_51 nw nx g) (by decide) hv.1 ?_
            refine SW.cg (M' := (S nw nx g, 78 + gn, (rm c (tkT nb n (tkT nb n (tkT nb n (tkT nb n (tkT nb n p))))) (tkF nb n (tkT nb n (tkT nb n (tkT nb n (tkT nb n p))))) (tkK nb n (tkT nb n (tkT nb n (tkT nb n (tkT nb n p))))) (vlS nb n (tkT nb n (tkT nb n (tkT nb n (tkT nb n p))))) false fk fp rk ln (uN (uN (rbd bd) ((5 * (ltV nb n (tkT nb n p))) + (ltV nb n (tkT nb n (tkT nb n p)))) (vlT nb n (tkT nb n (tkT nb n (tkT nb n p))))) ((5 * (ltV nb n (tkT nb n (tkT nb n p)))) + (ltV nb n (tkT nb n p))) (vlT nb n (tkT nb n (tkT nb n (tkT nb n p)))))))) (congrArg (fun m => (S nw nx g, 78 + gn, m)) (rm_a51 hv.1)) ?_
            replace hv := hv.2
            exact sw_vret (dX9_readsBond.at 39 rfl) rfl (Nat.le_refl _) (Nat.le_refl _) hv
        · replace hv := hv.2.2.2.2.1 q y_1 q2
          refine sw_istore_n (lo' := [some (vr (49)), some (vi (((ltV nb n (tkT nb n p) : Nat) : Int))), some (vi (((ltV nb n (tkT nb n (tkT nb n p)) : Nat) : Int))), some (vi (((y_1 : Nat) : Int)))]) (dX9_readsBond.at 17 rfl) rfl (by decide) rfl ?_
          refine sw_aload_n (dX9_readsBond.at 18 rfl) rfl rfl ?_
          refine sw_getIE (w := bz (true)) (dX9_readsBond.at 19 rfl) fp_X9_131 (S_lt 49 (by decide)) (S_49 nw nx g) rfl rfl ?_
          refine sw_if_ne (tgt := 59) (dX9_readsBond.at 20 rfl) (by decide) (by decide) (fun q => ?_) (fun q => ?_)
          · clear q
            exact sw_vret (dX9_readsBond.at 39 rfl) rfl (Nat.le_refl _) (Nat.le_refl _) hv
          · exact absurd q (by decide)
        · replace hv := hv.2.2.2.2.2 q y_2 q2
          refine sw_istore_n (lo' := [some (vr (49)), some (vi (((ltV nb n (tkT nb n p) : Nat) : Int))), some (vi (((ltV nb n (tkT nb n (tkT nb n p)) : Nat) : Int))), some (vi (((y_2 : Nat) : Int)))]) (dX9_readsBond.at 17 rfl) rfl (by decide) rfl ?_
          refine sw_aload_n (dX9_readsBond.at 18 rfl) rfl rfl ?_
          refine sw_getIE (w := bz (true)) (dX9_readsBond.at 19 rfl) fp_X9_131 (S_lt 49 (by decide)) (S_49 nw nx g) rfl rfl ?_
          refine sw_if_ne (tgt := 59) (dX9_readsBond.at 20 rfl) (by decide) (by decide) (fun q => ?_) (fun q => ?_)
          · clear q
            exact sw_vret (dX9_readsBond.at 39 rfl) rfl (Nat.le_refl _) (Nat.le_refl _) hv
          · exact absurd q (by decide)
      · replace hv := hv.2.2.2.2.2.2.1 q
        refine sw_istore_n (lo' := [some (vr (49)), some (vi (((ltV nb n (tkT nb n p) : Nat) : Int))), some (vi (0)), none]) (dX9_readsBond.at 12 rfl) rfl (by decide) rfl ?_
        refine sw_aload_n (dX9_readsBond.at 13 rfl) rfl rfl ?_
        refine sw_iconst (dX9_readsBond.at 14 rfl) ?_
        refine sw_bipush (dX9_readsBond.at 15 rfl) (by decide) ?_
        refine sw_callV (B' := B0) (As := [vi (3), vi (12)]) (mc := 0) (ms := 0) (dX9_readsBond.at 16 rfl) lk_X9_168 (S_lt 49 (by decide)) (S_49 nw nx g) rfl rfl (Nat.le_of_ble_eq_true rfl) rfl (Nat.le_refl _) (Nat.le_refl _) ?_
        refine c_X9_reads_t (lo := 3) (hi := 12) (j := j + 0) hS hn hB hT ?_
        refine sw_istore_n (lo' := [some (vr (49)), some (vi (((ltV nb n (tkT nb n p) : Nat) : Int))), some (vi (0)), some (vi (3))]) (dX9_readsBond.at 17 rfl) rfl (by decide) rfl ?_
        refine sw_aload_n (dX9_readsBond.at 18 rfl) rfl rfl ?_
        refine sw_getIE (w := bz (true)) (dX9_readsBond.at 19 rfl) fp_X9_131 (S_lt 49 (by decide)) (S_49 nw nx g) rfl rfl ?_
        refine sw_if_ne (tgt := 59) (dX9_readsBond.at 20 rfl) (by decide) (by decide) (fun q => ?_) (fun q => ?_)
        · clear q
          exact sw_vret (dX9_readsBond.at 39 rfl) rfl (Nat.le_refl _) (Nat.le_refl _) hv
        · exact absurd q (by decide)
      · replace hv := hv.2.2.2.2.2.2.2 q
        refine sw_istore_n (lo' := [some (vr (49)), some (vi (((ltV nb n (tkT nb n p) : Nat) : Int))), some (vi (0)), none]) (dX9_readsBond.at 12 rfl) rfl (by decide) rfl ?_
        refine sw_aload_n (dX9_readsBond.at 13 rfl) rfl rfl ?_
        refine sw_iconst (dX9_readsBond.at 14 rfl) ?_
        refine sw_bipush (dX9_readsBond.at 15 rfl) (by decide) ?_
        refine sw_callV (B' := B0) (As := [vi (3), vi (12)]) (mc := 0) (ms := 0) (dX9_readsBond.at 16 rfl) lk_X9_168 (S_lt 49 (by decide)) (S_49 nw nx g) rfl rfl (Nat.le_of_ble_eq_true rfl) rfl (Nat.le_refl _) (Nat.le_refl _) ?_
        refine c_X9_reads_t (lo := 3) (hi := 12) (j := j + 0) hS hn hB hT ?_
        refine sw_istore_n (lo' := [some (vr (49)), some (vi (((ltV nb n (tkT nb n p) : Nat) : Int))), some (vi (0)), some (vi (3))]) (dX9_readsBond.at 17 rfl) rfl (by decide) rfl ?_
        refine sw_aload_n (dX9_readsBond.at 18 rfl) rfl rfl ?_
        refine sw_getIE (w := bz (true)) (dX9_readsBond.at 19 rfl) fp_X9_131 (S_lt 49 (by decide)) (S_49 nw nx g) rfl rfl ?_
        refine sw_if_ne (tgt := 59) (dX9_readsBond.at 20 rfl) (by decide) (by decide) (fun q => ?_) (fun q => ?_)
        · clear q
          exact sw_vret (dX9_readsBond.at 39 rfl) rfl (Nat.le_refl _) (Nat.le_refl _) hv
        · exact absurd q (by decide)
    · replace hv := hv.2.2.2.1 q
      refine sw_istore_n (lo' := [some (vr (49)), some (vi (0)), none, none]) (dX9_readsBond.at 8 rfl) rfl (by decide) rfl ?_
      refine sw_aload_n (dX9_readsBond.at 9 rfl) rfl rfl ?_
      refine sw_iload_n (dX9_readsBond.at 10 rfl) rfl rfl ?_
      refine sw_callV (B' := B0) (As := [vi (0)]) (mc := 0) (ms := 0) (dX9_readsBond.at 11 rfl) lk_X9_173 (S_lt 49 (by decide)) (S_49 nw nx g) rfl rfl (Nat.le_of_ble_eq_true rfl) rfl (Nat.le_refl _) (Nat.le_refl _) ?_
      refine c_X9_readsLetter_t (j := j + 0) hS hn hB hT ?_
      refine sw_istore_n (lo' := [some (vr (49)), some (vi (0)), some (vi (0)), none]) (dX9_readsBond.at 12 rfl) rfl (by decide) rfl ?_
      refine sw_aload_n (dX9_readsBond.at 13 rfl) rfl rfl ?_
      refine sw_iconst (dX9_readsBond.at 14 rfl) ?_
      refine sw_bipush (dX9_readsBond.at 15 rfl) (by decide) ?_
      refine sw_callV (B' := B0) (As := [vi (3), vi (12)]) (mc := 0) (ms := 0) (dX9_readsBond.at 16 rfl) lk_X9_168 (S_lt 49 (by decide)) (S_49 nw nx g) rfl rfl (Nat.le_of_ble_eq_true rfl) rfl (Nat.le_refl _) (Nat.le_refl _) ?_
      refine c_X9_reads_t (lo := 3) (hi := 12) (j := j + 0) hS hn hB hT ?_
      refine sw_istore_n (lo' := [some (vr (49)), some (vi (0)), some (vi (0)), some (vi (3))]) (dX9_readsBond.at 17 rfl) rfl (by decide) rfl ?_
      refine sw_aload_n (dX9_readsBond.at 18 rfl) rfl rfl ?_
      refine sw_getIE (w := bz (true)) (dX9_readsBond.at 19 rfl) fp_X9_131 (S_lt 49 (by decide)) (S_49 nw nx g) rfl rfl ?_
      refine sw_if_ne (tgt := 59) (dX9_readsBond.at 20 rfl) (by decide) (by decide) (fun q => ?_) (fun q => ?_)
      · clear q
        exact sw_vret (dX9_readsBond.at 39 rfl) rfl (Nat.le_refl _) (Nat.le_refl _) hv
      · exact absurd q (by decide)
    · replace hv := hv.2.2.2.2 q
      refine sw_istore_n (lo' := [some (vr (49)), some (vi (0)), none, none]) (dX9_readsBond.at 8 rfl) rfl (by decide) rfl ?_
      refine sw_aload_n (dX9_readsBond.at 9 rfl) rfl rfl ?_
      refine sw_iload_n (dX9_readsBond.at 10 rfl) rfl rfl ?_
      refine sw_callV (B' := B0) (As := [vi (0)]) (mc := 0) (ms := 0) (dX9_readsBond.at 11 rfl) lk_X9_173 (S_lt 49 (by decide)) (S_49 nw nx g) rfl rfl (Nat.le_of_ble_eq_true rfl) rfl (Nat.le_refl _) (Nat.le_refl _) ?_
      refine c_X9_readsLetter_t (j := j + 0) hS hn hB hT ?_
      refine sw_istore_n (lo' := [some (vr (49)), some (vi (0)), some (vi (0)), none]) (dX9_readsBond.at 12 rfl) rfl (by decide) rfl ?_
      refine sw_aload_n (dX9_readsBond.at 13 rfl) rfl rfl ?_
      refine sw_iconst (dX9_readsBond.at 14 rfl) ?_
      refine sw_bipush (dX9_readsBond.at 15 rfl) (by decide) ?_
      refine sw_callV (B' := B0) (As := [vi (3), vi (12)]) (mc := 0) (ms := 0) (dX9_readsBond.at 16 rfl) lk_X9_168 (S_lt 49 (by decide)) (S_49 nw nx g) rfl rfl (Nat.le_of_ble_eq_true rfl) rfl (Nat.le_refl _) (Nat.le_refl _) ?_
      refine c_X9_reads_t (lo := 3) (hi := 12) (j := j + 0) hS hn hB hT ?_
      refine sw_istore_n (lo' := [some (vr (49)), some (vi (0)), some (vi (0)), some (vi (3))]) (dX9_readsBond.at 17 rfl) rfl (by decide) rfl ?_
      refine sw_aload_n (dX9_readsBond.at 18 rfl) rfl rfl ?_
      refine sw_getIE (w := bz (true)) (dX9_readsBond.at 19 rfl) fp_X9_131 (S_lt 49 (by decide)) (S_49 nw nx g) rfl rfl ?_
      refine sw_if_ne (tgt := 59) (dX9_readsBond.at 20 rfl) (by decide) (by decide) (fun q => ?_) (fun q => ?_)
      · clear q
        exact sw_vret (dX9_readsBond.at 39 rfl) rfl (Nat.le_refl _) (Nat.le_refl _) hv
      · exact absurd q (by decide)
  · replace hv := hv.2.2 q
    refine sw_aload_n (dX9_readsBond.at 5 rfl) rfl rfl ?_
    refine sw_iconst (dX9_readsBond.at 6 rfl) ?_
    refine sw_callV (B' := B0) (As := [vi ((-1))]) (mc := 0) (ms := 0) (dX9_readsBond.at 7 rfl) lk_X9_173 (S_lt 49 (by decide)) (S_49 nw nx g) rfl rfl (Nat.le_of_ble_eq_true rfl) rfl (Nat.le_refl _) (Nat.le_refl _) ?_
    refine c_X9_readsLetter_t (j := j + 0) hS hn hB hT ?_
    refine sw_istore_n (lo' := [some (vr (49)), some (vi (0)), none, none]) (dX9_readsBond.at 8 rfl) rfl (by decide) rfl ?_
    refine sw_aload_n (dX9_readsBond.at 9 rfl) rfl rfl ?_
    refine sw_iload_n (dX9_readsBond.at 10 rfl) rfl rfl ?_
    refine sw_callV (B' := B0) (As := [vi (0)]) (mc := 0) (ms := 0) (dX9_readsBond.at 11 rfl) lk_X9_173 (S_lt 49 (by decide)) (S_49 nw nx g) rfl rfl (Nat.le_of_ble_eq_true rfl) rfl (Nat.le_refl _) (Nat.le_refl _) ?_
    refine c_X9_readsLetter_t (j := j + 0) hS hn hB hT ?_
    refine sw_istore_n (lo' := [some (vr (49)), some (vi (0)), some (vi (0)), none]) (dX9_readsBond.at 12 rfl) rfl (by decide) rfl ?_
    refine sw_aload_n (dX9_readsBond.at 13 rfl) rfl rfl ?_
    refine sw_iconst (dX9_readsBond.at 14 rfl) ?_
    refine sw_bipush (dX9_readsBond.at 15 rfl) (by decide) ?_
    refine sw_callV (B' := B0) (As := [vi (3), vi (12)]) (mc := 0) (ms := 0) (dX9_readsBond.at 16 rfl) lk_X9_168 (S_lt 49 (by decide)) (S_49 nw nx g) rfl rfl (Nat.le_of_ble_eq_true rfl) rfl (Nat.le_refl _) (Nat.le_refl _) ?_
    refine c_X9_reads_t (lo := 3) (hi := 12) (j := j + 0) hS hn hB hT ?_
    refine sw_istore_n (lo' := [some (vr (49)), some (vi (0)), some (vi (0)), some (vi (3))]) (dX9_readsBond.at 17 rfl) rfl (by decide) rfl ?_
    refine sw_aload_n (dX9_readsBond.at 18 rfl) rfl rfl ?_
    refine sw_getIE (w := bz (true)) (dX9_readsBond.at 19 rfl) fp_X9_131 (S_lt 49 (by decide)) (S_49 nw nx g) rfl rfl ?_
    refine sw_if_ne (tgt := 59) (dX9_readsBond.at 20 rfl) (by decide) (by decide) (fun q => ?_) (fun q => ?_)
    · clear q
      exact sw_vret (dX9_readsBond.at 39 rfl) rfl (Nat.le_refl _) (Nat.le_refl _) hv
    · exact absurd q (by decide)

set_option maxHeartbeats 16000000 in
theorem c_X9_readsBond {G : GG} {j nw nx gn : Nat} {g : Nat → Sh} {c : Nat → Nat → Int} {post : Option AV → AM → Prop} {nb : Nat → Nat} {n : Nat} {p : Nat} {fk : Nat} {fp : Int} {rk : Nat} {ln : Nat} {bd : Nat → Nat} (hS : c 49 1 = ((n : Nat) : Int)) (hn : n ≤ 300) (hB : ∀ i, nb i < 256) (hT : ∀ i, i < 300 → c 50 i = ((nb i : Nat) : Int)) (hp : p ≤ n) (hr : rk ≤ 5) (hb : BDok rk bd) (K1 : (bnP nb n p rk bd).1 = 0 → post none (S nw nx g, 78 + gn, (rm c (tkT nb n ((bnP nb n p rk bd).2.2.1)) (tkF nb n ((bnP nb n p rk bd).2.2.1)) (tkK nb n ((bnP nb n p rk bd).2.2.1)) (vlS nb n ((bnP nb n p rk bd).2.2.1)) false fk fp rk ln (rbd (bnP nb n p rk bd).2.2.2)))) (K2 : (bnP nb n p rk bd).1 ≠ 0 → ∀ ra rb rt rv : Nat, rt < 5 → post none (S nw nx g, 78 + gn, (rm c ra rb rt rv true (bnP nb n p rk bd).1 (bnP nb n p rk bd).2.1 rk ln (rbd bd)))) : SM G (j + 6) mX9_readsBond [vr (49)] (S nw nx g, 78 + gn, (rm c (tkT nb n p) (tkF nb n p) (tkK nb n p) (vlS nb n p) false fk fp rk ln (rbd bd))) 0 0 post := by
  refine sm_of wX9_readsBond rfl (Nat.le_of_ble_eq_true rfl) ?_
  have h1 := tkT_le (nb := nb) hp
  have h2 := tkT_le (nb := nb) h1.2
  have h3 := tkT_le (nb := nb) h2.2
  have h4 := tkT_le (nb := nb) h3.2
  have h5 := tkT_le (nb := nb) h4.2
  have hk := tkK_le (nb := nb) (n := n) (p := p)
  have hF := tkF_le (nb := nb) hp
  have KA : ∀ (p2 : Nat) (bo2 : Nat → Nat), (bnP nb n p rk bd).1 = 0 → (bnP nb n p rk bd).2.2.1 = p2 → rbd (bnP nb n p rk bd).2.2.2 = bo2 → post none (S nw nx g, 78 + gn, (rm c (tkT nb n p2) (tkF nb n p2) (tkK nb n p2) (vlS nb n p2) false fk fp rk ln bo2)) := fun p2 bo2 a b d => b ▸ d ▸ K1 a
  have KB : ∀ (k3 : Nat) (z3 : Int) (ra rb rt rv : Nat), (bnP nb n p rk bd).1 = k3 → (bnP nb n p rk bd).2.1 = z3 → k3 ≠ 0 → rt < 5 → post none (S nw nx g, 78 + gn, (rm c ra rb rt rv true k3 z3 rk ln (rbd bd))) := fun k3 z3 ra rb rt rv a b d t5 => by subst a; subst b; exact K2 d ra rb rt rv t5
  have hL : ltP nb n (tkT nb n p) rk = 0 → ltV nb n (tkT nb n p) < rk := by
    intro h
    unfold ltP at h
    split at h
    · omega
    · split at h <;> omega
  have hQ : ltQ nb n (tkT nb n (tkT nb n p)) rk (ltV nb n (tkT nb n p)) bd = 0 → ltV nb n (tkT nb n (tkT nb n p)) < rk ∧ ltV nb n (tkT nb n (tkT nb n p)) ≠ ltV nb n (tkT nb n p) := by
    intro h
    unfold ltQ at h
    split at h
    · omega
    · split at h <;> omega
  refine g_X9_readsBond_0 hS hn hB hT ?_
  refine ⟨?_, ?_, ?_, ⟨?_, fun q => ⟨?_, ?_, fun q => ⟨?_, ?_, ?_, ?_, ?_, fun q => ⟨?_, ?_, ?_, fun q => ⟨?_, ⟨?_, ?_⟩⟩, fun q => fun y_1 => fun q => ?_, fun q => fun y_2 => fun q => ?_⟩, fun q => ?_, fun q => ?_⟩, fun q => ?_, fun q => ?_⟩, fun q => ?_⟩⟩
  all_goals first | omega | decide | exact rfl | exact hb.1 | (have a1 := hL (by assumption); omega) | (have a1 := hL (by assumption); have a2 := hQ (by assumption); omega) | (refine KB _ _ _ _ _ _ ?_ ?_ ?_ ?_ <;> first | decide | exact tkK_le | (simp [bnP, *]; done)) | (have a1 := hL (by assumption); have a2 := hQ (by assumption); rename_i qv; rw [rbd_set (a := ltV nb n (tkT nb n p)) (b := ltV nb n (tkT nb n (tkT nb n p))) (by omega) (by omega) (by omega) (by omega)]; refine KA _ _ ?_ ?_ ?_ <;> (simp [bnP, *]; done))

set_option maxHeartbeats 2000000 in
set_option maxRecDepth 20000 in
theorem g_X9_readsAll_0 {G : GG} {j nw nx gn : Nat} {g : Nat → Sh} {c : Nat → Nat → Int} {post : Option AV → AM → Prop} {nb : Nat → Nat} {n : Nat} {ra : Nat} {rb : Nat} {rt : Nat} {rv : Nat} {rz : Bool} {fk : Nat} {fp : Int} {rk : Nat} {ln : Nat} {bo : Nat → Nat} (hS : c 49 1 = ((n : Nat) : Int)) (hn : n ≤ 300) (hB : ∀ i, nb i < 256) (hT : ∀ i, i < 300 → c 50 i = ((nb i : Nat) : Int))  (hv : SW G (j + 6) mX9_readsAll 4 [some (vr (49))] [] (S nw nx g, 78 + gn, (rm c (tkT nb n 0) (tkF nb n 0) (tkK nb n 0) (vlS nb n 0) false 0 (-1) rk ln bo)) B0 post) :
    SW G (j + 6) mX9_readsAll 0 [some (vr (49))] [] (S nw nx g, 78 + gn, (rm c ra rb rt rv rz fk fp rk ln bo)) B0 post := by
  refine sw_aload_n (dX9_readsAll.at 0 rfl) rfl rfl ?_
  refine sw_callV (B' := B0) (As := []) (mc := 0) (ms := 0) (dX9_readsAll.at 1 rfl) lk_X9_177 (S_lt 49 (by decide)) (S_49 nw nx g) rfl rfl (Nat.le_of_ble_eq_true rfl) rfl (Nat.le_refl _) (Nat.le_refl _) ?_
  refine c_X9_begins (j := j + 2) hS hn hB hT ?_
  exact hv

set_option maxHeartbeats 2000000 in
set_option maxRecDepth 20000 in
theorem g_X9_readsAll_4 {G : GG} {j nw nx gn : Nat} {g : Nat → Sh} {c : Nat → Nat → Int} {post : Option AV → AM → Prop} {nb : Nat → Nat} {n : Nat} {p : Nat} {rk : Nat} {ln : Nat} {bd : Nat → Nat} (hS : c 49 1 = ((n : Nat) : Int)) (hn : n ≤ 300) (hB : ∀ i, nb i < 256) (hT : ∀ i, i < 300 → c 50 i = ((nb i : Nat) : Int))  (hv : (tkK nb n p < 2147483648) ∧ (((tkK nb n p = 0) → post none (S nw nx g, 78 + gn, (up2 (rm c (tkT nb n p) (tkF nb n p) (tkK nb n p) (vlS nb n p) false 0 (-1) rk ln (rbd bd)) 49 1 0))) ∧ ((¬ (tkK nb n p = 0)) → (ln < 2147483648) ∧ (((ln ≠ 0) → (p ≤ n) ∧ (rk ≤ 5) ∧ (BDok rk bd) ∧ (((bnP nb n p rk bd).1 = 0) → (tkK nb n ((bnP nb n p rk bd).2.2.1) < 2147483648) ∧ (((tkK nb n ((bnP nb n p rk bd).2.2.1) ≠ 3) → (((bnP nb n p rk bd).2.2.1) ≤ n) ∧ (SW G (j + 6) mX9_readsAll 4 [some (vr (49))] [] (S nw nx g, 78 + gn, (rm c (tkT nb n ((bnP nb n p rk bd).2.2.1)) (tkF nb n ((bnP nb n p rk bd).2.2.1)) (tkK nb n ((bnP nb n p rk bd).2.2.1)) (vlS nb n ((bnP nb n p rk bd).2.2.1)) true 1 ((tkF nb n ((bnP nb n p rk bd).2.2.1) : Nat) : Int) rk (ln + 1) (rbd ((bnP nb n p rk bd).2.2.2)))) B0 post)) ∧ ((tkK nb n ((bnP nb n p rk bd).2.2.1) = 3) → (((bnP nb n p rk bd).2.2.1) ≤ n) ∧ (SW G (j + 6) mX9_readsAll 4 [some (vr (49))] [] (S nw nx g, 78 + gn, (rm c (tkT nb n (tkT nb n ((bnP nb n p rk bd).2.2.1))) (tkF nb n (tkT nb n ((bnP nb n p rk bd).2.2.1))) (tkK nb n (tkT nb n ((bnP nb n p rk bd).2.2.1))) (vlS nb n (tkT nb n ((bnP nb n p rk bd).2.2.1))) false 0 (-1) rk (ln + 1) (rbd ((bnP nb n p rk bd).2.2.2)))) B0 post)))) ∧ (((bnP nb n p rk bd).1 ≠ 0) → ∀ ra_1 rb_1 rt_1 rv_1 : Nat, (rt_1 < 5) → SW G (j + 6) mX9_readsAll 4 [some (vr (49))] [] (S nw nx g, 78 + gn, (rm c ra_1 rb_1 rt_1 rv_1 true ((bnP nb n p rk bd).1) ((bnP nb n p rk bd).2.1) rk (ln + 1) (rbd bd))) B0 post)) ∧ ((ln = 0) → (p ≤ n) ∧ (((rkP nb n p).1 = 0) → (tkK nb n ((rkP nb n p).2.2.1) < 2147483648) ∧ (((tkK nb n ((rkP nb n p).2.2.1) ≠ 3) → (((rkP nb n p).2.2.1) ≤ n) ∧ (SW G (j + 6) mX9_readsAll 4 [some (vr (49))] [] (S nw nx g, 78 + gn, (rm c (tkT nb n ((rkP nb n p).2.2.1)) (tkF nb n ((rkP nb n p).2.2.1)) (tkK nb n ((rkP nb n p).2.2.1)) (vlS nb n ((rkP nb n p).2.2.1)) true 1 ((tkF nb n ((rkP nb n p).2.2.1) : Nat) : Int) ((rkP nb n p).2.2.2) (ln + 1) (rbd bd))) B0 post)) ∧ ((tkK nb n ((rkP nb n p).2.2.1) = 3) → (((rkP nb n p).2.2.1) ≤ n) ∧ (SW G (j + 6) mX9_readsAll 4 [some (vr (49))] [] (S nw nx g, 78 + gn, (rm c (tkT nb n (tkT nb n ((rkP nb n p).2.2.1))) (tkF nb n (tkT nb n ((rkP nb n p).2.2.1))) (tkK nb n (tkT nb n ((rkP nb n p).2.2.1))) (vlS nb n (tkT nb n ((rkP nb n p).2.2.1))) false 0 (-1) ((rkP nb n p).2.2.2) (ln + 1) (rbd bd))) B0 post)))) ∧ (((rkP nb n p).1 ≠ 0) → ∀ ra_2 rb_2 rt_2 rv_2 rk_2 : Nat, (rt_2 < 5) → SW G (j + 6) mX9_readsAll 4 [some (vr (49))] [] (S nw nx g, 78 + gn, (rm c ra_2 rb_2 rt_2 rv_2 true ((rkP nb n p).1) ((rkP nb n p).2.1) rk_2 (ln + 1) (rbd bd))) B0 post)))))) :
    SW G (j + 6) mX9_readsAll 4 [some (vr (49))] [] (S nw nx g, 78 + gn, (rm c (tkT nb n p) (tkF nb n p) (tkK nb n p) (vlS nb n p) false 0 (-1) rk ln (rbd bd))) B0 post := by
  refine sw_aload_n (dX9_readsAll.at 2 rfl) rfl rfl ?_
  refine sw_getIE (w := bz (false)) (dX9_readsAll.at 3 rfl) fp_X9_131 (S_lt 49 (by decide)) (S_49 nw nx g) rfl rfl ?_
  refine sw_if_ne (tgt := 73) (dX9_readsAll.at 4 rfl) (by decide) (by decide) (fun q => ?_) (fun q => ?_)
  · exact absurd q (by decide)
  · clear q
    refine sw_aload_n (dX9_readsAll.at 5 rfl) rfl rfl ?_
    refine sw_getIE (w := ((tkK nb n p : Nat) : Int)) (dX9_readsAll.at 6 rfl) fp_X9_121 (S_lt 49 (by decide)) (S_49 nw nx g) rfl rfl ?_
    refine sw_ifN_eq (tkK nb n p) (tgt := 73) (dX9_readsAll.at 7 rfl) (by decide) hv.1 (fun q => ?_) (fun q => ?_)
    · replace hv := hv.2.1 q
      refine sw_aload_n (dX9_readsAll.at 35 rfl) rfl rfl ?_
      refine sw_iconst (dX9_readsAll.at 36 rfl) ?_
      refine sw_putI (dX9_readsAll.at 37 rfl) fp_X9_101 (S_lt 49 (by decide)) (S_49 nw nx g) rfl ?_
      exact sw_vret (dX9_readsAll.at 38 rfl) rfl (Nat.le_refl _) (Nat.le_refl _) hv
    · replace hv := hv.2.2 q
      refine sw_aload_n (dX9_readsAll.at 8 rfl) rfl rfl ?_
      refine sw_getIE (w := ((ln : Nat) : Int)) (dX9_readsAll.at 9 rfl) fp_X9_180 (S_lt 49 (by decide)) (S_49 nw nx g) rfl rfl ?_
      refine sw_ifN_ne ln (tgt := 32) (dX9_readsAll.at 10 rfl) (by decide) hv.1 (fun q => ?_) (fun q => ?_)
      · replace hv := hv.2.1 q
        refine sw_aload_n (dX9_readsAll.at 14 rfl) rfl rfl ?_
        refine sw_callV (B' := B0) (As := []) (mc := 0) (ms := 0) (dX9_readsAll.at 15 rfl) lk_X9_186 (S_lt 49 (by decide)) (S_49 nw nx g) rfl rfl (Nat.le_of_ble_eq_true rfl) rfl (Nat.le_refl _) (Nat.le_refl _) ?_
        refine c_X9_readsBond (j := j + 0) hS hn hB hT hv.1 hv.2.1 hv.2.2.1 (fun q => ?_) (fun q ra_1 rb_1 rt_1 rv_1 q2 => ?_) 
        · replace hv := hv.2.2.2.1 q
          refine sw_aload_n (dX9_readsAll.at 16 rfl) rfl rfl ?_
          refine sw_aload_n (dX9_readsAll.at 17 rfl) rfl rfl ?_
          refine sw_getIE (w := bz (false)) (dX9_readsAll.at 18 rfl) fp_X9_131 (S_lt 49 (by decide)) (S_49 nw nx g) rfl rfl ?_
          refine sw_if_ne (tgt := 52) (dX9_readsAll.at 19 rfl) (by decide) (by decide) (fun q => ?_) (fun q => ?_)
          · exact absurd q (by decide)
          · clear q
            refine sw_aload_n (dX9_readsAll.at 20 rfl) rfl rfl ?_
            refine sw_getIE (w := ((tkK nb n ((bnP nb n p rk bd).2.2.1) : Nat) : Int)) (dX9_readsAll.at 21 rfl) fp_X9_121 (S_lt 49 (by decide)) (S_49 nw nx g) rfl rfl ?_
            refine sw_iconst (dX9_readsAll.at 22 rfl) ?_
            refine sw_icmpN_ne (tkK nb n ((bnP nb n p rk bd).2.2.1)) 3 (tgt := 56) (dX9_readsAll.at 23 rfl) (by decide) hv.1 (by decide) (fun q => ?_) (fun q => ?_)
            · replace hv := hv.2.1 q
              refine sw_iconst (dX9_readsAll.at 26 rfl) ?_
              refine sw_callV (B' := B0) (As := [vi (0)]) (mc := 0) (ms := 0) (dX9_readsAll.at 27 rfl) lk_X9_155 (S_lt 49 (by decide)) (S_49 nw nx g) rfl rfl (Nat.le_of_ble_eq_true rfl) rfl (Nat.le_refl _) (Nat.le_refl _) ?_
              refine c_X9_passes_f0 (j := j + 2) hS hn hB hT hv.1 ?_
              replace hv := hv.2
              refine sw_aload_n (dX9_readsAll.at 28 rfl) rfl rfl ?_
              refine sw_dup (dX9_readsAll.at 29 rfl) (fun _ h => by cases h) ?_
              refine sw_getIE (w := ((ln : Nat) : Int)) (dX9_readsAll.at 30 rfl) fp_X9_180 (S_lt 49 (by decide)) (S_49 nw nx g) rfl rfl ?_
              refine sw_iconst (dX9_readsAll.at 31 rfl) ?_
              refine sw_iadd (dX9_readsAll.at 32 rfl) ?_
              refine sw_topI (y := ((ln + 1 : Nat) : Int)) (by first | rfl | (congr 1)) ?_
              refine sw_putI (dX9_readsAll.at 33 rfl) fp_X9_180 (S_lt 49 (by decide)) (S_49 nw nx g) rfl ?_
              refine SW.cg (M' := (S nw nx g, 78 + gn, (rm c (tkT nb n ((bnP nb n p rk bd).2.2.1)) (tkF nb n ((bnP nb n p rk bd).2.2.1)) (tkK nb n ((bnP nb n p rk bd).2.2.1)) (vlS nb n ((bnP nb n p rk bd).2.2.1)) true 1 ((tkF nb n ((bnP nb n p rk bd).2.2.1) : Nat) : Int) rk (ln + 1) (rbd ((bnP nb n p rk bd).2.2.2))))) (congrArg (fun m => (S nw nx g, 78 + gn, m)) rm_5) ?_
              refine sw_goto (tgt := 4) (dX9_readsAll.at 34 rfl) (by decide) ?_
              exact hv
            · replace hv := hv.2.2 q
              refine sw_iconst (dX9_readsAll.at 24 rfl) ?_
              refine sw_goto (tgt := 57) (dX9_readsAll.at 25 rfl) (by decide) ?_
              refine sw_callV (B' := B0) (As := [vi (1)]) (mc := 0) (ms := 0) (dX9_readsAll.at 27 rfl) lk_X9_155 (S_lt 49 (by decide)) (S_49 nw nx g) rfl rfl (Nat.le_of_ble_eq_true rfl) rfl (Nat.le_refl _) (Nat.le_refl _) ?_
              refine c_X9_passes_f1 (j := j + 2) hS hn hB hT hv.1 ?_
              replace hv := hv.2
              refine sw_aload_n (dX9_readsAll.at 28 rfl) rfl rfl ?_
              refine sw_dup (dX9_readsAll.at 29 rfl) (fun _ h => by cases h) ?_
              refine sw_getIE (w := ((ln : Nat) : Int)) (dX9_readsAll.at 30 rfl) fp_X9_180 (S_lt 49 (by decide)) (S_49 nw nx g) rfl rfl ?_
              refine sw_iconst (dX9_readsAll.at 31 rfl) ?_
              refine sw_iadd (dX9_readsAll.at 32 rfl) ?_
              refine sw_topI (y := ((ln + 1 : Nat) : Int)) (by first | rfl | (congr 1)) ?_
              refine sw_putI (dX9_readsAll.at 33 rfl) fp_X9_180 (S_lt 49 (by decide)) (S_49 nw nx g) rfl ?_
              refine SW.cg (M' := (S nw nx g, 78 + gn, (rm c (tkT nb n (tkT nb n ((bnP nb n p rk bd).2.2.1))) (tkF nb n (tkT nb n ((bnP nb n p rk bd).2.2.1))) (tkK nb n (tkT nb n ((bnP nb n p rk bd).2.2.1))) (vlS nb n (tkT nb n ((bnP nb n p rk bd).2.2.1))) false 0 (-1) rk (ln + 1) (rbd ((bnP nb n p rk bd).2.2.2))))) (congrArg (fun m => (S nw nx g, 78 + gn, m)) rm_5) ?_
              refine sw_goto (tgt := 4) (dX9_readsAll.at 34 rfl) (by decide) ?_
              exact hv
        · replace hv := hv.2.2.2.2 q ra_1 rb_1 rt_1 rv_1 q2
          refine sw_aload_n (dX9_readsAll.at 16 rfl) rfl rfl ?_
          refine sw_aload_n (dX9_readsAll.at 17 rfl) rfl rfl ?_
          refine sw_getIE (w := bz (true)) (dX9_readsAll.at 18 rfl) fp_X9_131 (S_lt 49 (by decide)) (S_49 nw nx g) rfl rfl ?_
          refine sw_if_ne (tgt := 52) (dX9_readsAll.at 19 rfl) (by decide) (by decide) (fun q => ?_) (fun q => ?_)
          · clear q
            refine sw_iconst (dX9_readsAll.at 24 rfl) ?_
            refine sw_goto (tgt := 57) (dX9_readsAll.at 25 rfl) (by decide) ?_
            refine sw_callV (B' := B0) (As := [vi (1)]) (mc := 0) (ms := 0) (dX9_readsAll.at 27 rfl) lk_X9_155 (S_lt 49 (by decide)) (S_49 nw nx g) rfl rfl (Nat.le_of_ble_eq_true rfl) rfl (Nat.le_refl _) (Nat.le_refl _) ?_
            refine c_X9_passes_t1 (j := j + 2) hS hn hB hT ?_
            refine sw_aload_n (dX9_readsAll.at 28 rfl) rfl rfl ?_
            refine sw_dup (dX9_readsAll.at 29 rfl) (fun _ h => by cases h) ?_
            refine sw_getIE (w := ((ln : Nat) : Int)) (dX9_readsAll.at 30 rfl) fp_X9_180 (S_lt 49 (by decide)) (S_49 nw nx g) rfl rfl ?_
            refine sw_iconst (dX9_readsAll.at 31 rfl) ?_
            refine sw_iadd (dX9_readsAll.at 32 rfl) ?_
            refine sw_topI (y := ((ln + 1 : Nat) : Int)) (by first | rfl | (congr 1)) ?_
            refine sw_putI (dX9_readsAll.at 33 rfl) fp_X9_180 (S_lt 49 (by decide)) (S_49 nw nx g) rfl ?_
            refine SW.cg (M' := (S nw nx g, 78 + gn, (rm c ra_1 rb_1 rt_1 rv_1 true ((bnP nb n p rk bd).1) ((bnP nb n p rk bd).2.1) rk (ln + 1) (rbd bd)))) (congrArg (fun m => (S nw nx g, 78 + gn, m)) rm_5) ?_
            refine sw_goto (tgt := 4) (dX9_readsAll.at 34 rfl) (by decide) ?_
            exact hv
          · exact absurd q (by decide)
      · replace hv := hv.2.2 q
        refine sw_aload_n (dX9_readsAll.at 11 rfl) rfl rfl ?_
        refine sw_callV (B' := B0) (As := []) (mc := 0) (ms := 0) (dX9_readsAll.at 12 rfl) lk_X9_183 (S_lt 49 (by decide)) (S_49 nw nx g) rfl rfl (Nat.le_of_ble_eq_true rfl) rfl (Nat.le_refl _) (Nat.le_refl _) ?_
        refine c_X9_readsGroup (j := j + 0) hS hn hB hT hv.1 (fun q => ?_) (fun q ra_2 rb_2 rt_2 rv_2 rk_2 q2 => ?_) 
        · replace hv := hv.2.1 q
          refine sw_goto (tgt := 36) (dX9_readsAll.at 13 rfl) (by decide) ?_
          refine sw_aload_n (dX9_readsAll.at 16 rfl) rfl rfl ?_
          refine sw_aload_n (dX9_readsAll.at 17 rfl) rfl rfl ?_
          refine sw_getIE (w := bz (false)) (dX9_readsAll.at 18 rfl) fp_X9_131 (S_lt 49 (by decide)) (S_49 nw nx g) rfl rfl ?_
          refine sw_if_ne (tgt := 52) (dX9_readsAll.at 19 rfl) (by decide) (by decide) (fun q => ?_) (fun q => ?_)
          · exact absurd q (by decide)
          · clear q
            refine sw_aload_n (dX9_readsAll.at 20 rfl) rfl rfl ?_
            refine sw_getIE (w := ((tkK nb n ((rkP nb n p).2.2.1) : Nat) : Int)) (dX9_readsAll.at 21 rfl) fp_X9_121 (S_lt 49 (by decide)) (S_49 nw nx g) rfl rfl ?_
            refine sw_iconst (dX9_readsAll.at 22 rfl) ?_
            refine sw_icmpN_ne (tkK nb n ((rkP nb n p).2.2.1)) 3 (tgt := 56) (dX9_readsAll.at 23 rfl) (by decide) hv.1 (by decide) (fun q => ?_) (fun q => ?_)
            · replace hv := hv.2.1 q
              refine sw_iconst (dX9_readsAll.at 26 rfl) ?_
              refine sw_callV (B' := B0) (As := [vi (0)]) (mc := 0) (ms := 0) (dX9_readsAll.at 27 rfl) lk_X9_155 (S_lt 49 (by decide)) (S_49 nw nx g) rfl rfl (Nat.le_of_ble_eq_true rfl) rfl (Nat.le_refl _) (Nat.le_refl _) ?_
              refine c_X9_passes_f0 (j := j + 2) hS hn hB hT hv.1 ?_
              replace hv := hv.2
              refine sw_aload_n (dX9_readsAll.at 28 rfl) rfl rfl ?_
              refine sw_dup (dX9_readsAll.at 29 rfl) (fun _ h => by cases h) ?_
              refine sw_getIE (w := ((ln : Nat) : Int)) (dX9_readsAll.at 30 rfl) fp_X9_180 (S_lt 49 (by decide)) (S_49 nw nx g) rfl rfl ?_
              refine sw_iconst (dX9_readsAll.at 31 rfl) ?_
              refine sw_iadd (dX9_readsAll.at 32 rfl) ?_
              refine sw_topI (y := ((ln + 1 : Nat) : Int)) (by first | rfl | (congr 1)) ?_
              refine sw_putI (dX9_readsAll.at 33 rfl) fp_X9_180 (S_lt 49 (by decide)) (S_49 nw nx g) rfl ?_
              refine SW.cg (M' := (S nw nx g, 78 + gn, (rm c (tkT nb n ((rkP nb n p).2.2.1)) (tkF nb n ((rkP nb n p).2.2.1)) (tkK nb n ((rkP nb n p).2.2.1)) (vlS nb n ((rkP nb n p).2.2.1)) true 1 ((tkF nb n ((rkP nb n p).2.2.1) : Nat) : Int) ((rkP nb n p).2.2.2) (ln + 1) (rbd bd)))) (congrArg (fun m => (S nw nx g, 78 + gn, m)) rm_5) ?_
              refine sw_goto (tgt := 4) (dX9_readsAll.at 34 rfl) (by decide) ?_
              exact hv
            · replace hv := hv.2.2 q
              refine sw_iconst (dX9_readsAll.at 24 rfl) ?_
              refine sw_goto (tgt := 57) (dX9_readsAll.at 25 rfl) (by decide) ?_
              refine sw_callV (B' := B0) (As := [vi (1)]) (mc := 0) (ms := 0) (dX9_readsAll.at 27 rfl) lk_X9_155 (S_lt 49 (by decide)) (S_49 nw nx g) rfl rfl (Nat.le_of_ble_eq_true rfl) rfl (Nat.le_refl _) (Nat.le_refl _) ?_
              refine c_X9_passes_f1 (j := j + 2) hS hn hB hT hv.1 ?_
              replace hv := hv.2
              refine sw_aload_n (dX9_readsAll.at 28 rfl) rfl rfl ?_
              refine sw_dup (dX9_readsAll.at 29 rfl) (fun _ h => by cases h) ?_
              refine sw_getIE (w := ((ln : Nat) : Int)) (dX9_readsAll.at 30 rfl) fp_X9_180 (S_lt 49 (by decide)) (S_49 nw nx g) rfl rfl ?_
              refine sw_iconst (dX9_readsAll.at 31 rfl) ?_
              refine sw_iadd (dX9_readsAll.at 32 rfl) ?_
              refine sw_topI (y := ((ln + 1 : Nat) : Int)) (by first | rfl | (congr 1)) ?_
              refine sw_putI (dX9_readsAll.at 33 rfl) fp_X9_180 (S_lt 49 (by decide)) (S_49 nw nx g) rfl ?_
              refine SW.cg (M' := (S nw nx g, 78 + gn, (rm c (tkT nb n (tkT nb n ((rkP nb n p).2.2.1))) (tkF nb n (tkT nb n ((rkP nb n p).2.2.1))) (tkK nb n (tkT nb n ((rkP nb n p).2.2.1))) (vlS nb n (tkT nb n ((rkP nb n p).2.2.1))) false 0 (-1) ((rkP nb n p).2.2.2) (ln + 1) (rbd bd)))) (congrArg (fun m => (S nw nx g, 78 + gn, m)) rm_5) ?_
              refine sw_goto (tgt := 4) (dX9_readsAll.at 34 rfl) (by decide) ?_
              exact hv
        · replace hv := hv.2.2 q ra_2 rb_2 rt_2 rv_2 rk_2 q2
          refine sw_goto (tgt := 36) (dX9_readsAll.at 13 rfl) (by decide) ?_
          refine sw_aload_n (dX9_readsAll.at 16 rfl) rfl rfl ?_
          refine sw_aload_n (dX9_readsAll.at 17 rfl) rfl rfl ?_
          refine sw_getIE (w := bz (true)) (dX9_readsAll.at 18 rfl) fp_X9_131 (S_lt 49 (by decide)) (S_49 nw nx g) rfl rfl ?_
          refine sw_if_ne (tgt := 52) (dX9_readsAll.at 19 rfl) (by decide) (by decide) (fun q => ?_) (fun q => ?_)
          · clear q
            refine sw_iconst (dX9_readsAll.at 24 rfl) ?_
            refine sw_goto (tgt := 57) (dX9_readsAll.at 25 rfl) (by decide) ?_
            refine sw_callV (B' := B0) (As := [vi (1)]) (mc := 0) (ms := 0) (dX9_readsAll.at 27 rfl) lk_X9_155 (S_lt 49 (by decide)) (S_49 nw nx g) rfl rfl (Nat.le_of_ble_eq_true rfl) rfl (Nat.le_refl _) (Nat.le_refl _) ?_
            refine c_X9_passes_t1 (j := j + 2) hS hn hB hT ?_
            refine sw_aload_n (dX9_readsAll.at 28 rfl) rfl rfl ?_
            refine sw_dup (dX9_readsAll.at 29 rfl) (fun _ h => by cases h) ?_
            refine sw_getIE (w := ((ln : Nat) : Int)) (dX9_readsAll.at 30 rfl) fp_X9_180 (S_lt 49 (by decide)) (S_49 nw nx g) rfl rfl ?_
            refine sw_iconst (dX9_readsAll.at 31 rfl) ?_
            refine sw_iadd (dX9_readsAll.at 32 rfl) ?_
            refine sw_topI (y := ((ln + 1 : Nat) : Int)) (by first | rfl | (congr 1)) ?_
            refine sw_putI (dX9_readsAll.at 33 rfl) fp_X9_180 (S_lt 49 (by decide)) (S_49 nw nx g) rfl ?_
            refine SW.cg (M' := (S nw nx g, 78 + gn, (rm c ra_2 rb_2 rt_2 rv_2 true ((rkP nb n p).1) ((rkP nb n p).2.1) rk_2 (ln + 1) (rbd bd)))) (congrArg (fun m => (S nw nx g, 78 + gn, m)) rm_5) ?_
            refine sw_goto (tgt := 4) (dX9_readsAll.at 34 rfl) (by decide) ?_
            exact hv
          · exact absurd q (by decide)

set_option maxHeartbeats 2000000 in
set_option maxRecDepth 20000 in
theorem g_X9_readsAll_4t {G : GG} {j nw nx gn : Nat} {g : Nat → Sh} {c : Nat → Nat → Int} {post : Option AV → AM → Prop} {nb : Nat → Nat} {n : Nat} {ra : Nat} {rb : Nat} {rt : Nat} {rv : Nat} {fk : Nat} {fp : Int} {rk : Nat} {ln : Nat} {bo : Nat → Nat} (hS : c 49 1 = ((n : Nat) : Int)) (hn : n ≤ 300) (hB : ∀ i, nb i < 256) (hT : ∀ i, i < 300 → c 50 i = ((nb i : Nat) : Int))  (hv : post none (S nw nx g, 78 + gn, (up2 (rm c ra rb rt rv true fk fp rk ln bo) 49 1 0))) :
    SW G (j + 6) mX9_readsAll 4 [some (vr (49))] [] (S nw nx g, 78 + gn, (rm c ra rb rt rv true fk fp rk ln bo)) B0 post := by
  refine sw_aload_n (dX9_readsAll.at 2 rfl) rfl rfl ?_
  refine sw_getIE (w := bz (true)) (dX9_readsAll.at 3 rfl) fp_X9_131 (S_lt 49 (by decide)) (S_49 nw nx g) rfl rfl ?_
  refine sw_if_ne (tgt := 73) (dX9_readsAll.at 4 rfl) (by decide) (by decide) (fun q => ?_) (fun q => ?_)
  · clear q
    refine sw_aload_n (dX9_readsAll.at 35 rfl) rfl rfl ?_
    refine sw_iconst (dX9_readsAll.at 36 rfl) ?_
    refine sw_putI (dX9_readsAll.at 37 rfl) fp_X9_101 (S_lt 49 (by decide)) (S_49 nw nx g) rfl ?_
    exact sw_vret (dX9_readsAll.at 38 rfl) rfl (Nat.le_refl _) (Nat.le_refl _) hv
  · exact absurd q (by decide)

theorem lp_X9_readsAll_t {G : GG} {j nw nx gn : Nat} {g : Nat → Sh} {c : Nat → Nat → Int} {post : Option AV → AM → Prop} {nb : Nat → Nat} {n : Nat} {ra : Nat} {rb : Nat} {rt : Nat} {rv : Nat} {fk : Nat} {fp : Int} {rk : Nat} {ln : Nat} {bo : Nat → Nat} (hS : c 49 1 = ((n : Nat) : Int)) (hn : n ≤ 300) (hB : ∀ i, nb i < 256) (hT : ∀ i, i < 300 → c 50 i = ((nb i : Nat) : Int)) (K : post none (S nw nx g, 78 + gn, (up2 (rm c ra rb rt rv true fk fp rk ln bo) 49 1 0))) : SW G (j + 6) mX9_readsAll 4 [some (vr (49))] [] (S nw nx g, 78 + gn, (rm c ra rb rt rv true fk fp rk ln bo)) B0 post := by
  refine g_X9_readsAll_4t hS hn hB hT ?_
  exact K
set_option maxHeartbeats 16000000 in
theorem lp_X9_readsAll {G : GG} {j nw nx gn : Nat} {g : Nat → Sh} {c : Nat → Nat → Int} {post : Option AV → AM → Prop} {nb : Nat → Nat} {n : Nat} (hS : c 49 1 = ((n : Nat) : Int)) (hn : n ≤ 300) (hB : ∀ i, nb i < 256) (hT : ∀ i, i < 300 → c 50 i = ((nb i : Nat) : Int)) : ∀ (k p ln rk : Nat) (bd : Nat → Nat), 300 ≤ p + k → p ≤ n → rk ≤ 5 → (0 < ln ↔ 0 < rk) → ln ≤ p → BDok rk bd → (∀ (ra rb rt rv rk2 ln2 fk2 : Nat) (rz : Bool) (fp2 : Int) (bd2 : Nat → Nat), PRes (glP nb n k p ln rk bd) rk2 ln2 fk2 fp2 bd2 → (rz = true ↔ fk2 ≠ 0) → post none (S nw nx g, 78 + gn, (up2 (rm c ra rb rt rv rz fk2 fp2 rk2 ln2 (rbd bd2)) 49 1 0))) → SW G (j + 6) mX9_readsAll 4 [some (vr (49))] [] (S nw nx g, 78 + gn, (rm c (tkT nb n p) (tkF nb n p) (tkK nb n p) (vlS nb n p) false 0 (-1) rk ln (rbd bd))) B0 post := by
  intro k
  induction k with
  | zero =>
    intro p ln rk bd h1 h2 h3 h4 h6 h5 K
    have c0 : tkK nb n p = 0 := by
      have := tkF_le (nb := nb) h2
      exact tkK_0.mpr (by omega)
    refine g_X9_readsAll_4 hS hn hB hT ?_
    refine ⟨?_, ⟨fun q => ?_, fun q => ⟨?_, ⟨fun q => ⟨?_, ?_, ?_, fun q => ⟨?_, ⟨fun q => ⟨?_, ?_⟩, fun q => ⟨?_, ?_⟩⟩⟩, fun q => fun ra_1 rb_1 rt_1 rv_1 => fun q => ?_⟩, fun q => ⟨?_, fun q => ⟨?_, ⟨fun q => ⟨?_, ?_⟩, fun q => ⟨?_, ?_⟩⟩⟩, fun q => fun ra_2 rb_2 rt_2 rv_2 rk_2 => fun q => ?_⟩⟩⟩⟩⟩
    all_goals first | omega | (exfalso; omega) | exact K _ _ _ _ _ _ _ _ _ _ ⟨rfl, rfl, fun _ => ⟨rfl, rfl, rfl⟩⟩ ⟨fun h => absurd h (by decide), fun h => absurd rfl h⟩
  | succ k ih =>
    intro p ln rk bd h1 h2 h3 h4 h6 h5 K
    have r := rkP_ok (nb := nb) h2
    have b := bnP_ok (nb := nb) h2 h3 h5
    have hk := tkK_le (nb := nb) (n := n) (p := p)
    refine g_X9_readsAll_4 hS hn hB hT ?_
    by_cases c0 : tkK nb n p = 0
    · have e : glP nb n (k + 1) p ln rk bd = (0, -1, rk, ln, bd) := by rw [glP, if_pos c0]
      rw [e] at K
      refine ⟨?_, ⟨fun q => ?_, fun q => ⟨?_, ⟨fun q => ⟨?_, ?_, ?_, fun q => ⟨?_, ⟨fun q => ⟨?_, ?_⟩, fun q => ⟨?_, ?_⟩⟩⟩, fun q => fun ra_1 rb_1 rt_1 rv_1 => fun q => ?_⟩, fun q => ⟨?_, fun q => ⟨?_, ⟨fun q => ⟨?_, ?_⟩, fun q => ⟨?_, ?_⟩⟩⟩, fun q => fun ra_2 rb_2 rt_2 rv_2 rk_2 => fun q => ?_⟩⟩⟩⟩⟩
      all_goals first | omega | (exfalso; omega) | exact K _ _ _ _ _ _ _ _ _ _ ⟨rfl, rfl, fun _ => ⟨rfl, rfl, rfl⟩⟩ ⟨fun h => absurd h (by decide), fun h => absurd rfl h⟩
    · have hgt := tkT_gt h2 c0
      by_cases c1 : ln = 0
      · by_cases c2 : (rkP nb n p).1 = 0
        · have r2 := r.2 c2
          have hk2 := tkK_le (nb := nb) (n := n) (p := (rkP nb n p).2.2.1)
          have t2 := tkT_le (nb := nb) r2.2.1
          by_cases c3 : tkK nb n (rkP nb n p).2.2.1 = 3
          · have e : glP nb n (k + 1) p ln rk bd = glP nb n k (tkT nb n (rkP nb n p).2.2.1) (ln + 1) (rkP nb n p).2.2.2 bd := by rw [glP, if_neg c0, if_pos c1, if_neg (not_not_intro c2), if_pos c3]
            rw [e] at K
            have t3 := tkT_gt r2.2.1 (by rw [c3]; decide)
            have hb2 : BDok (rkP nb n p).2.2.2 bd := ⟨h5.1, h5.2.1, fun a b ha hb3 hz => h5.2.2 a b ha hb3 (by omega)⟩
            refine ⟨?_, ⟨fun q => ?_, fun q => ⟨?_, ⟨fun q => ⟨?_, ?_, ?_, fun q => ⟨?_, ⟨fun q => ⟨?_, ?_⟩, fun q => ⟨?_, ?_⟩⟩⟩, fun q => fun ra_1 rb_1 rt_1 rv_1 => fun q => ?_⟩, fun q => ⟨?_, fun q => ⟨?_, ⟨fun q => ⟨?_, ?_⟩, fun q => ⟨?_, ?_⟩⟩⟩, fun q => fun ra_2 rb_2 rt_2 rv_2 rk_2 => fun q => ?_⟩⟩⟩⟩⟩
            all_goals first | omega | assumption | (exfalso; omega) | exact ih _ _ _ _ (by omega) (by omega) (by omega) (by omega) (by omega) hb2 K
          · have e : glP nb n (k + 1) p ln rk bd = (1, ((tkF nb n (rkP nb n p).2.2.1 : Nat) : Int), 0, 0, bd) := by rw [glP, if_neg c0, if_pos c1, if_neg (not_not_intro c2), if_neg c3]
            rw [e] at K
            refine ⟨?_, ⟨fun q => ?_, fun q => ⟨?_, ⟨fun q => ⟨?_, ?_, ?_, fun q => ⟨?_, ⟨fun q => ⟨?_, ?_⟩, fun q => ⟨?_, ?_⟩⟩⟩, fun q => fun ra_1 rb_1 rt_1 rv_1 => fun q => ?_⟩, fun q => ⟨?_, fun q => ⟨?_, ⟨fun q => ⟨?_, ?_⟩, fun q => ⟨?_, ?_⟩⟩⟩, fun q => fun ra_2 rb_2 rt_2 rv_2 rk_2 => fun q => ?_⟩⟩⟩⟩⟩
            all_goals first | omega | assumption | (exfalso; omega) | exact lp_X9_readsAll_t hS hn hB hT (K _ _ _ _ _ _ _ _ _ _ ⟨rfl, rfl, fun h => absurd h yf1⟩ ⟨fun _ => yf1, fun _ => rfl⟩)
        · have e : glP nb n (k + 1) p ln rk bd = ((rkP nb n p).1, (rkP nb n p).2.1, 0, 0, bd) := by rw [glP, if_neg c0, if_pos c1, if_pos c2]
          rw [e] at K
          refine ⟨?_, ⟨fun q => ?_, fun q => ⟨?_, ⟨fun q => ⟨?_, ?_, ?_, fun q => ⟨?_, ⟨fun q => ⟨?_, ?_⟩, fun q => ⟨?_, ?_⟩⟩⟩, fun q => fun ra_1 rb_1 rt_1 rv_1 => fun q => ?_⟩, fun q => ⟨?_, fun q => ⟨?_, ⟨fun q => ⟨?_, ?_⟩, fun q => ⟨?_, ?_⟩⟩⟩, fun q => fun ra_2 rb_2 rt_2 rv_2 rk_2 => fun q => ?_⟩⟩⟩⟩⟩
          all_goals first | omega | assumption | (exfalso; omega) | exact lp_X9_readsAll_t hS hn hB hT (K _ _ _ _ _ _ _ _ _ _ ⟨rfl, rfl, fun h => absurd h c2⟩ ⟨fun _ => c2, fun _ => rfl⟩)
      · by_cases c2 : (bnP nb n p rk bd).1 = 0
        · have r2 := b.2 c2
          have hk2 := tkK_le (nb := nb) (n := n) (p := (bnP nb n p rk bd).2.2.1)
          have t2 := tkT_le (nb := nb) r2.2.1
          by_cases c3 : tkK nb n (bnP nb n p rk bd).2.2.1 = 3
          · have e : glP nb n (k + 1) p ln rk bd = glP nb n k (tkT nb n (bnP nb n p rk bd).2.2.1) (ln + 1) rk (bnP nb n p rk bd).2.2.2 := by rw [glP, if_neg c0, if_neg c1, if_neg (not_not_intro c2), if_pos c3]
            rw [e] at K
            have t3 := tkT_gt r2.2.1 (by rw [c3]; decide)
            refine ⟨?_, ⟨fun q => ?_, fun q => ⟨?_, ⟨fun q => ⟨?_, ?_, ?_, fun q => ⟨?_, ⟨fun q => ⟨?_, ?_⟩, fun q => ⟨?_, ?_⟩⟩⟩, fun q => fun ra_1 rb_1 rt_1 rv_1 => fun q => ?_⟩, fun q => ⟨?_, fun q => ⟨?_, ⟨fun q => ⟨?_, ?_⟩, fun q => ⟨?_, ?_⟩⟩⟩, fun q => fun ra_2 rb_2 rt_2 rv_2 rk_2 => fun q => ?_⟩⟩⟩⟩⟩
            all_goals first | omega | assumption | (exfalso; omega) | exact ih _ _ _ _ (by omega) (by omega) (by omega) (by omega) (by omega) r2.2.2 K
          · have e : glP nb n (k + 1) p ln rk bd = (1, ((tkF nb n (bnP nb n p rk bd).2.2.1 : Nat) : Int), 0, 0, bd) := by rw [glP, if_neg c0, if_neg c1, if_neg (not_not_intro c2), if_neg c3]
            rw [e] at K
            refine ⟨?_, ⟨fun q => ?_, fun q => ⟨?_, ⟨fun q => ⟨?_, ?_, ?_, fun q => ⟨?_, ⟨fun q => ⟨?_, ?_⟩, fun q => ⟨?_, ?_⟩⟩⟩, fun q => fun ra_1 rb_1 rt_1 rv_1 => fun q => ?_⟩, fun q => ⟨?_, fun q => ⟨?_, ⟨fun q => ⟨?_, ?_⟩, fun q => ⟨?_, ?_⟩⟩⟩, fun q => fun ra_2 rb_2 rt_2 rv_2 rk_2 => fun q => ?_⟩⟩⟩⟩⟩
            all_goals first | omega | assumption | (exfalso; omega) | exact lp_X9_readsAll_t hS hn hB hT (K _ _ _ _ _ _ _ _ _ _ ⟨rfl, rfl, fun h => absurd h yf1⟩ ⟨fun _ => yf1, fun _ => rfl⟩)
        · have e : glP nb n (k + 1) p ln rk bd = ((bnP nb n p rk bd).1, (bnP nb n p rk bd).2.1, 0, 0, bd) := by rw [glP, if_neg c0, if_neg c1, if_pos c2]
          rw [e] at K
          refine ⟨?_, ⟨fun q => ?_, fun q => ⟨?_, ⟨fun q => ⟨?_, ?_, ?_, fun q => ⟨?_, ⟨fun q => ⟨?_, ?_⟩, fun q => ⟨?_, ?_⟩⟩⟩, fun q => fun ra_1 rb_1 rt_1 rv_1 => fun q => ?_⟩, fun q => ⟨?_, fun q => ⟨?_, ⟨fun q => ⟨?_, ?_⟩, fun q => ⟨?_, ?_⟩⟩⟩, fun q => fun ra_2 rb_2 rt_2 rv_2 rk_2 => fun q => ?_⟩⟩⟩⟩⟩
          all_goals first | omega | assumption | (exfalso; omega) | exact lp_X9_readsAll_t hS hn hB hT (K _ _ _ _ _ _ _ _ _ _ ⟨rfl, rfl, fun h => absurd h c2⟩ ⟨fun _ => c2, fun _ => rfl⟩)
theorem c_X9_readsAll {G : GG} {j nw nx gn : Nat} {g : Nat → Sh} {c : Nat → Nat → Int} {post : Option AV → AM → Prop} {nb : Nat → Nat} {n : Nat} {ra : Nat} {rb : Nat} {rt : Nat} {rv : Nat} {rz : Bool} {fk : Nat} {fp : Int} (hS : c 49 1 = ((n : Nat) : Int)) (hn : n ≤ 300) (hB : ∀ i, nb i < 256) (hT : ∀ i, i < 300 → c 50 i = ((nb i : Nat) : Int)) (K : (∀ (ra rb rt rv rk2 ln2 fk2 : Nat) (rz : Bool) (fp2 : Int) (bd2 : Nat → Nat), PRes (glP nb n 300 0 0 0 (fun _ => 0)) rk2 ln2 fk2 fp2 bd2 → (rz = true ↔ fk2 ≠ 0) → post none (S nw nx g, 78 + gn, (up2 (rm c ra rb rt rv rz fk2 fp2 rk2 ln2 (rbd bd2)) 49 1 0)))) : SM G (j + 7) mX9_readsAll [vr (49)] (S nw nx g, 78 + gn, (rm c ra rb rt rv rz fk fp 0 0 (rbd (fun _ => 0)))) 0 0 post := by
  refine sm_of wX9_readsAll rfl (Nat.le_of_ble_eq_true rfl) ?_
  refine g_X9_readsAll_0 hS hn hB hT ?_
  exact lp_X9_readsAll hS hn hB hT 300 0 0 0 _ (by omega) (Nat.zero_le _) (by decide) (by decide) (Nat.le_refl _) BDok_0 K

