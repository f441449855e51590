set_option maxHeartbeats 2000000 in
set_option maxRecDepth 20000 in
theorem g_X9_fault_0 {G : GG} {j nw nx gn : Nat} {g : Nat → Sh} {c : Nat → Nat → Int} {post : Option AV → AM → Prop} {x : Int}  (hv : (-2147483648 ≤ x ∧ x < 2147483648) ∧ (((x ≠ 0) → (-2147483648 ≤ x ∧ x < 2147483648) ∧ (((x ≠ 1) → post (some (vi ((-1)))) (S nw nx g, 78 + gn, c)) ∧ ((x = 1) → post (some (vi (c 49 3))) (S nw nx g, 78 + gn, c)))) ∧ ((x = 0) → post (some (vi (c 49 2))) (S nw nx g, 78 + gn, c)))) :
    SW G (j + 0) mX9_fault 0 [some (vr (49)), some (vi (x))] [] (S nw nx g, 78 + gn, c) B0 post := by
  refine sw_iload_n (dX9_fault.at 0 rfl) rfl rfl ?_
  refine sw_if_ne (tgt := 11) (dX9_fault.at 1 rfl) (by decide) hv.1 (fun q => ?_) (fun q => ?_)
  · replace hv := hv.2.1 q
    refine sw_iload_n (dX9_fault.at 5 rfl) rfl rfl ?_
    refine sw_iconst (dX9_fault.at 6 rfl) ?_
    refine sw_icmp_ne (tgt := 23) (dX9_fault.at 7 rfl) (by decide) hv.1 (by decide) (fun q => ?_) (fun q => ?_)
    · replace hv := hv.2.1 q
      refine sw_iconst (dX9_fault.at 11 rfl) ?_
      exact sw_iret (dX9_fault.at 12 rfl) rfl (Nat.le_refl _) (Nat.le_refl _) hv
    · replace hv := hv.2.2 q
      refine sw_aload_n (dX9_fault.at 8 rfl) rfl rfl ?_
      refine sw_getI (dX9_fault.at 9 rfl) fp_X9_13 (S_lt 49 (by decide)) (S_49 nw nx g) rfl ?_
      refine sw_goto (tgt := 24) (dX9_fault.at 10 rfl) (by decide) ?_
      exact sw_iret (dX9_fault.at 12 rfl) rfl (Nat.le_refl _) (Nat.le_refl _) hv
  · replace hv := hv.2.2 q
    refine sw_aload_n (dX9_fault.at 2 rfl) rfl rfl ?_
    refine sw_getI (dX9_fault.at 3 rfl) fp_X9_135 (S_lt 49 (by decide)) (S_49 nw nx g) rfl ?_
    refine sw_goto (tgt := 24) (dX9_fault.at 4 rfl) (by decide) ?_
    exact sw_iret (dX9_fault.at 12 rfl) rfl (Nat.le_refl _) (Nat.le_refl _) hv

set_option maxHeartbeats 4000000 in
theorem c_X9_fault {G : GG} {j nw nx gn : Nat} {g : Nat → Sh} {c : Nat → Nat → Int} {post : Option AV → AM → Prop} {x : Int} (p1 : -2147483648 ≤ x ∧ x < 2147483648) (K : post (some (vi (q_fault (c 49 2) (c 49 3) x))) (S nw nx g, 78 + gn, c)) : SM G (j + 1) mX9_fault [vr 49, vi x] (S nw nx g, 78 + gn, c) 0 0 post := by
  refine sm_of wX9_fault rfl (Nat.le_of_ble_eq_true rfl) ?_
  refine g_X9_fault_0 ?_
  have K1 : ∀ z : Int, z = q_fault (c 49 2) (c 49 3) x → post (some (vi z)) (S nw nx g, 78 + gn, c) := fun z h => h ▸ K
  refine ⟨?_, ⟨fun q => ⟨?_, ⟨fun q => ?_, fun q => ?_⟩⟩, fun q => ?_⟩⟩
  all_goals first | omega | (refine K1 _ ?_; simp [q_fault, *]; done)

set_option maxHeartbeats 2000000 in
set_option maxRecDepth 20000 in
theorem g_X9_count_0 {G : GG} {j nw nx gn : Nat} {g : Nat → Sh} {c : Nat → Nat → Int} {post : Option AV → AM → Prop} {x : Int} {P : GD} (hM : ML c P) (hV : GV P)  (hv : (-2147483648 ≤ x ∧ x < 2147483648) ∧ ((x = 0) → post (some (vi (((gR P : Nat) : Int)))) (S nw nx g, 78 + gn, c)) ∧ ((x = 1) → post (some (vi (((gN P : Nat) : Int)))) (S nw nx g, 78 + gn, c)) ∧ ((x = 2) → (((decide (0 < gN P)) = false) → post (some (vi (0))) (S nw nx g, 78 + gn, c)) ∧ (((decide (0 < gN P)) = true) → (gN P - 1 < gN P) ∧ (post (some (vi (((gL P (gN P - 1) : Nat) : Int)))) (S nw nx g, 78 + gn, c)))) ∧ ((x = 3) → post (some (vi (((gM P : Nat) : Int)))) (S nw nx g, 78 + gn, c)) ∧ ((x = 4) → post (some (vi (c 49 5))) (S nw nx g, 78 + gn, c)) ∧ ((x = 5) → post (some (vi (c 49 39))) (S nw nx g, 78 + gn, c)) ∧ ((x = 6) → post (some (vi (c 49 1))) (S nw nx g, 78 + gn, c)) ∧ ((x < 0 ∨ 6 < x) → post (some (vi ((-1)))) (S nw nx g, 78 + gn, c))) :
    SW G (j + 1) mX9_count 0 [some (vr (49)), some (vi (x))] [] (S nw nx g, 78 + gn, c) B0 post := by
  refine sw_iload_n (dX9_count.at 0 rfl) rfl rfl ?_
  by_cases q : x = 0
  · refine sw_tsIn (tgt := 44) (dX9_count.at 1 rfl) hv.1 (by omega) (by omega) (by rw [q]; rfl) (by decide) ?_
    replace hv := hv.2.1 q
    refine sw_aload_n (dX9_count.at 2 rfl) rfl rfl ?_
    refine sw_getIE (w := ((gR P : Nat) : Int)) (dX9_count.at 3 rfl) fp_X9_159 (S_lt 49 (by decide)) (S_49 nw nx g) rfl hM.1.1 ?_
    exact sw_iret (dX9_count.at 4 rfl) rfl (Nat.le_refl _) (Nat.le_refl _) hv
  · have q1_0 := q
    clear q
    by_cases q : x = 1
    · refine sw_tsIn (tgt := 49) (dX9_count.at 1 rfl) hv.1 (by omega) (by omega) (by rw [q]; rfl) (by decide) ?_
      replace hv := hv.2.2.1 q
      refine sw_aload_n (dX9_count.at 5 rfl) rfl rfl ?_
      refine sw_getIE (w := ((gN P : Nat) : Int)) (dX9_count.at 6 rfl) fp_X9_196 (S_lt 49 (by decide)) (S_49 nw nx g) rfl hM.1.2.1 ?_
      exact sw_iret (dX9_count.at 7 rfl) rfl (Nat.le_refl _) (Nat.le_refl _) hv
    · have q1_1 := q
      clear q
      by_cases q : x = 2
      · refine sw_tsIn (tgt := 54) (dX9_count.at 1 rfl) hv.1 (by omega) (by omega) (by rw [q]; rfl) (by decide) ?_
        replace hv := hv.2.2.2.1 q
        refine sw_aload_n (dX9_count.at 8 rfl) rfl rfl ?_
        refine sw_callV (B' := B0) (As := []) (mc := 0) (ms := 0) (dX9_count.at 9 rfl) lk_X9_248 (S_lt 49 (by decide)) (S_49 nw nx g) rfl rfl (Nat.le_of_ble_eq_true rfl) rfl (Nat.le_refl _) (Nat.le_refl _) ?_
        refine c_X9_is  (j := j + 0) hM hV ?_
        refine sw_if_eq (tgt := 73) (dX9_count.at 10 rfl) (by decide) (bz_rng _) (fun q => ?_) (fun q => ?_)
        · replace hv := hv.1 (bz_0 q)
          refine sw_iconst (dX9_count.at 17 rfl) ?_
          exact sw_iret (dX9_count.at 18 rfl) rfl (Nat.le_refl _) (Nat.le_refl _) hv
        · replace hv := hv.2 (bz_n0 q)
          refine sw_aload_n (dX9_count.at 11 rfl) rfl rfl ?_
          refine sw_getR (dX9_count.at 12 rfl) fp_X9_32 (S_lt 49 (by decide)) (S_49 nw nx g) rfl rfl ?_
          refine sw_aload_n (dX9_count.at 13 rfl) rfl rfl ?_
          refine sw_getIE (w := ((gN P - 1 : Nat) : Int)) (dX9_count.at 14 rfl) fp_X9_218 (S_lt 49 (by decide)) (S_49 nw nx g) rfl hM.1.2.2.2.1 ?_
          refine sw_ialdN (gN P - 1) (w := ((gL P (gN P - 1) : Nat) : Int)) (dX9_count.at 15 rfl) (S_lt 56 (by decide)) (S_56 nw nx g) (by decide) (GV_lt hV hv.1) (ML_L hM hv.1) ?_
          replace hv := hv.2
          refine sw_goto (tgt := 74) (dX9_count.at 16 rfl) (by decide) ?_
          exact sw_iret (dX9_count.at 18 rfl) rfl (Nat.le_refl _) (Nat.le_refl _) hv
      · have q1_2 := q
        clear q
        by_cases q : x = 3
        · refine sw_tsIn (tgt := 75) (dX9_count.at 1 rfl) hv.1 (by omega) (by omega) (by rw [q]; rfl) (by decide) ?_
          replace hv := hv.2.2.2.2.1 q
          refine sw_aload_n (dX9_count.at 19 rfl) rfl rfl ?_
          refine sw_getIE (w := ((gM P : Nat) : Int)) (dX9_count.at 20 rfl) fp_X9_215 (S_lt 49 (by decide)) (S_49 nw nx g) rfl hM.1.2.2.1 ?_
          exact sw_iret (dX9_count.at 21 rfl) rfl (Nat.le_refl _) (Nat.le_refl _) hv
        · have q1_3 := q
          clear q
          by_cases q : x = 4
          · refine sw_tsIn (tgt := 80) (dX9_count.at 1 rfl) hv.1 (by omega) (by omega) (by rw [q]; rfl) (by decide) ?_
            replace hv := hv.2.2.2.2.2.1 q
            refine sw_aload_n (dX9_count.at 22 rfl) rfl rfl ?_
            refine sw_getI (dX9_count.at 23 rfl) fp_X9_180 (S_lt 49 (by decide)) (S_49 nw nx g) rfl ?_
            exact sw_iret (dX9_count.at 24 rfl) rfl (Nat.le_refl _) (Nat.le_refl _) hv
          · have q1_4 := q
            clear q
            by_cases q : x = 5
            · refine sw_tsIn (tgt := 85) (dX9_count.at 1 rfl) hv.1 (by omega) (by omega) (by rw [q]; rfl) (by decide) ?_
              replace hv := hv.2.2.2.2.2.2.1 q
              refine sw_aload_n (dX9_count.at 25 rfl) rfl rfl ?_
              refine sw_getI (dX9_count.at 26 rfl) fp_X9_199 (S_lt 49 (by decide)) (S_49 nw nx g) rfl ?_
              exact sw_iret (dX9_count.at 27 rfl) rfl (Nat.le_refl _) (Nat.le_refl _) hv
            · have q1_5 := q
              clear q
              by_cases q : x = 6
              · refine sw_tsIn (tgt := 90) (dX9_count.at 1 rfl) hv.1 (by omega) (by omega) (by rw [q]; rfl) (by decide) ?_
                replace hv := hv.2.2.2.2.2.2.2.1 q
                refine sw_aload_n (dX9_count.at 28 rfl) rfl rfl ?_
                refine sw_getI (dX9_count.at 29 rfl) fp_X9_101 (S_lt 49 (by decide)) (S_49 nw nx g) rfl ?_
                exact sw_iret (dX9_count.at 30 rfl) rfl (Nat.le_refl _) (Nat.le_refl _) hv
              · have q1_6 := q
                clear q
                have q : x < 0 ∨ 6 < x := by omega
                refine sw_tsOut (tgt := 95) (dX9_count.at 1 rfl) hv.1 q (by decide) ?_
                replace hv := hv.2.2.2.2.2.2.2.2 q
                refine sw_iconst (dX9_count.at 31 rfl) ?_
                exact sw_iret (dX9_count.at 32 rfl) rfl (Nat.le_refl _) (Nat.le_refl _) hv

set_option maxHeartbeats 4000000 in
theorem c_X9_count {G : GG} {j nw nx gn : Nat} {g : Nat → Sh} {c : Nat → Nat → Int} {post : Option AV → AM → Prop} {P : GD} {x : Int} (hM : ML c P) (hV : GV P) (p1 : -2147483648 ≤ x ∧ x < 2147483648) (K : post (some (vi (q_count P (c 49 5) (c 49 39) (c 49 1) x))) (S nw nx g, 78 + gn, c)) : SM G (j + 2) mX9_count [vr 49, vi x] (S nw nx g, 78 + gn, c) 0 0 post := by
  refine sm_of wX9_count rfl (Nat.le_of_ble_eq_true rfl) ?_
  refine g_X9_count_0 hM hV ?_
  have K1 : ∀ z : Int, z = q_count P (c 49 5) (c 49 39) (c 49 1) x → post (some (vi z)) (S nw nx g, 78 + gn, c) := fun z h => h ▸ K
  by_cases h0 : gN P = 0
  · have e9 : gTop P = 0 := by rw [gTop, if_pos h0]
    refine ⟨?_, fun q => ?_, fun q => ?_, fun q => ⟨fun q => ?_, fun q => ⟨?_, ?_⟩⟩, fun q => ?_, fun q => ?_, fun q => ?_, fun q => ?_, fun q => ?_⟩
    all_goals first | omega | (refine K1 _ ?_; simp [q_count, q]; done) | (exfalso; simp only [decide_eq_true_eq, decide_eq_false_iff_not] at *; omega) | (refine K1 _ ?_; simp [q_count, *]; done) | (refine K1 _ ?_; have a0 : x ≠ 0 := (by omega); have a1 : x ≠ 1 := (by omega); have a2 : x ≠ 2 := (by omega); have a3 : x ≠ 3 := (by omega); have a4 : x ≠ 4 := (by omega); have a5 : x ≠ 5 := (by omega); have a6 : x ≠ 6 := (by omega); simp [q_count, a0, a1, a2, a3, a4, a5, a6]; done)
  · have e9 : gTop P = gL P (gN P - 1) := by rw [gTop, if_neg h0]
    refine ⟨?_, fun q => ?_, fun q => ?_, fun q => ⟨fun q => ?_, fun q => ⟨?_, ?_⟩⟩, fun q => ?_, fun q => ?_, fun q => ?_, fun q => ?_, fun q => ?_⟩
    all_goals first | omega | (refine K1 _ ?_; simp [q_count, q]; done) | (exfalso; simp only [decide_eq_true_eq, decide_eq_false_iff_not] at *; omega) | (refine K1 _ ?_; simp [q_count, *]; done) | (refine K1 _ ?_; have a0 : x ≠ 0 := (by omega); have a1 : x ≠ 1 := (by omega); have a2 : x ≠ 2 := (by omega); have a3 : x ≠ 3 := (by omega); have a4 : x ≠ 4 := (by omega); have a5 : x ≠ 5 := (by omega); have a6 : x ≠ 6 := (by omega); simp [q_count, a0, a1, a2, a3, a4, a5, a6]; done)

def m9_end (n : Nat) (x : Int) (c : Nat → Nat → Int) : Nat → Nat → Int := if 0 ≤ x ∧ x ≤ (n : Int) then up2 c 49 1 x else c
set_option maxHeartbeats 2000000 in
set_option maxRecDepth 20000 in
theorem g_X9_end_0 {G : GG} {j nw nx gn : Nat} {g : Nat → Sh} {c : Nat → Nat → Int} {post : Option AV → AM → Prop} {x : Int} {n : Nat} (hS : c 49 1 = ((n : Nat) : Int))  (hv : (-2147483648 ≤ x ∧ x < 2147483648) ∧ ((n < 2147483648) ∧ ((-9223372036854775808 ≤ (x : Int) ∧ (x : Int) < 9223372036854775808) ∧ (-9223372036854775808 ≤ (0 : Int) ∧ (0 : Int) < 9223372036854775808) ∧ (-9223372036854775808 ≤ (((n : Nat) : Int) : Int) ∧ (((n : Nat) : Int) : Int) < 9223372036854775808) ∧ ((((decide (0 ≤ x ∧ x ≤ ((n : Nat) : Int))) = true) → post (some (vi (x))) (S nw nx g, 78 + gn, (up2 c 49 1 x))) ∧ (((decide (0 ≤ x ∧ x ≤ ((n : Nat) : Int))) = false) → post (some (vi ((-1)))) (S nw nx g, 78 + gn, c)))))) :
    SW G (j + 1) mX9_end 0 [some (vr (49)), some (vi (x))] [] (S nw nx g, 78 + gn, c) B0 post := by
  refine sw_iload_n (dX9_end.at 0 rfl) rfl rfl ?_
  refine sw_i2l (dX9_end.at 1 rfl) hv.1 ?_
  replace hv := hv.2
  refine sw_lconst (z := 0) (dX9_end.at 2 rfl) (by decide) ?_
  refine sw_aload_n (dX9_end.at 3 rfl) rfl rfl ?_
  refine sw_getIE (w := ((n : Nat) : Int)) (dX9_end.at 4 rfl) fp_X9_101 (S_lt 49 (by decide)) (S_49 nw nx g) rfl hS ?_
  refine sw_i2l (dX9_end.at 5 rfl) (nrng hv.1) ?_
  replace hv := hv.2
  refine sw_callS (post' := post) (B' := B0) (As := [vl (x), vl (0), vl (((n : Nat) : Int))]) (mc := 0) (ms := 0) (dX9_end.at 6 rfl) lk_X9_104 rfl rfl (Nat.le_of_ble_eq_true rfl) rfl (Nat.le_refl _) (Nat.le_refl _) ?_
  refine c_X9_in (u := x) (lo := 0) (hi := ((n : Nat) : Int)) (j := j + 0) hv.1 hv.2.1 hv.2.2.1 ?_
  replace hv := hv.2.2.2
  refine sw_if_ne (tgt := 16) (dX9_end.at 7 rfl) (by decide) (bz_rng _) (fun q => ?_) (fun q => ?_)
  · replace hv := hv.1 (bz_1 q)
    refine sw_aload_n (dX9_end.at 10 rfl) rfl rfl ?_
    refine sw_iload_n (dX9_end.at 11 rfl) rfl rfl ?_
    refine sw_putI (dX9_end.at 12 rfl) fp_X9_101 (S_lt 49 (by decide)) (S_49 nw nx g) rfl ?_
    refine sw_iload_n (dX9_end.at 13 rfl) rfl rfl ?_
    exact sw_iret (dX9_end.at 14 rfl) rfl (Nat.le_refl _) (Nat.le_refl _) hv
  · replace hv := hv.2 (bz_n1 q)
    refine sw_iconst (dX9_end.at 8 rfl) ?_
    exact sw_iret (dX9_end.at 9 rfl) rfl (Nat.le_refl _) (Nat.le_refl _) hv

set_option maxHeartbeats 4000000 in
theorem c_X9_end {G : GG} {j nw nx gn : Nat} {g : Nat → Sh} {c : Nat → Nat → Int} {post : Option AV → AM → Prop} {n : Nat} {x : Int} (hS : c 49 1 = ((n : Nat) : Int)) (hn : n ≤ 300) (p1 : -2147483648 ≤ x ∧ x < 2147483648) (K : post (some (vi (q_end n x))) (S nw nx g, 78 + gn, m9_end n x c)) : SM G (j + 2) mX9_end [vr 49, vi x] (S nw nx g, 78 + gn, c) 0 0 post := by
  refine sm_of wX9_end rfl (Nat.le_of_ble_eq_true rfl) ?_
  refine g_X9_end_0 hS ?_
  by_cases h : 0 ≤ x ∧ x ≤ (n : Int)
  · rw [q_end, m9_end, if_pos h, if_pos h] at K
    refine ⟨?_, ⟨?_, ⟨?_, ?_, ?_, ⟨fun q => ?_, fun q => ?_⟩⟩⟩⟩
    all_goals (try simp only [decide_eq_true_eq, decide_eq_false_iff_not] at *)
    all_goals first | exact K | omega | (exfalso; omega)
  · rw [q_end, m9_end, if_neg h, if_neg h] at K
    refine ⟨?_, ⟨?_, ⟨?_, ?_, ?_, ⟨fun q => ?_, fun q => ?_⟩⟩⟩⟩
    all_goals (try simp only [decide_eq_true_eq, decide_eq_false_iff_not] at *)
    all_goals first | exact K | omega | (exfalso; omega)

