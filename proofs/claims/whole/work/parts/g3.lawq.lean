set_option maxHeartbeats 2000000 in
set_option maxRecDepth 20000 in
theorem g_law_bond {G : GG} {j nw nx gn : Nat} {g : Nat → Sh} {c : Nat → Nat → Int} {post : Option AV → AM → Prop} {BL : BB} {P : GD} {ii : Nat} (hG : G.2.1 < 2147483648) (hB1 : BL.1 ≤ BL.2.2.1) (hB2 : BL.2.1 ≤ BL.2.2.2)  (hv : (0 ≤ ((ii + 1 : Nat) : Int)) ∧ (((ii + 1 : Nat) : Int) < (G.2.1 : Int)) ∧ ((0 ≤ ((ii + 2 : Nat) : Int)) ∧ (((ii + 2 : Nat) : Int) < (G.2.1 : Int)) ∧ ((nw = 21 ∨ nw = 35) ∧ (EL c nw P) ∧ (GV P) ∧ (-2147483648 ≤ ((G.2.2 (((ii + 1 : Nat) : Int).toNat)).toInt) ∧ ((G.2.2 (((ii + 1 : Nat) : Int).toNat)).toInt) < 2147483648) ∧ (-2147483648 ≤ ((G.2.2 (((ii + 2 : Nat) : Int).toNat)).toInt) ∧ ((G.2.2 (((ii + 2 : Nat) : Int).toNat)).toInt) < 2147483648) ∧ ((0 ≤ ((ii + 1 : Nat) : Int)) ∧ (((ii + 1 : Nat) : Int) < (G.2.1 : Int)) ∧ ((0 ≤ ((ii + 2 : Nat) : Int)) ∧ (((ii + 2 : Nat) : Int) < (G.2.1 : Int)) ∧ ((ML c P) ∧ (GV P) ∧ (-2147483648 ≤ ((G.2.2 (((ii + 1 : Nat) : Int).toNat)).toInt) ∧ ((G.2.2 (((ii + 1 : Nat) : Int).toNat)).toInt) < 2147483648) ∧ (-2147483648 ≤ ((G.2.2 (((ii + 2 : Nat) : Int).toNat)).toInt) ∧ ((G.2.2 (((ii + 2 : Nat) : Int).toNat)).toInt) < 2147483648) ∧ (∀ c_1 : Nat → Nat → Int, SC c c_1 → SW G (j + 40) mL_law 2308 [some (vf 0), some (vr (0)), some (vr (49)), some (vi (((ii : Nat) : Int)))] [] (S nw nx g, 78 + gn, c_1) BL post))))))) :
    SW G (j + 40) mL_law 461 [some (vf 0), some (vr (0)), some (vr (49)), some (vi (((ii : Nat) : Int)))] [] (S nw nx g, 78 + gn, c) BL post := by
  refine sw_aload_n (dL_law_2.at 37 rfl) rfl rfl ?_
  refine sw_aload_nf (dL_law_2.at 38 rfl) rfl rfl ?_
  refine sw_iload_n (dL_law_2.at 39 rfl) rfl rfl ?_
  refine sw_iconst (dL_law_2.at 40 rfl) ?_
  refine sw_iadd (dL_law_2.at 41 rfl) ?_
  refine sw_topI (y := ((ii + 1 : Nat) : Int)) (by first | rfl | (congr 1)) ?_
  refine sw_sld (dL_law_2.at 42 rfl) hG hv.1 hv.2.1 ?_
  replace hv := hv.2.2
  refine sw_aload_nf (dL_law_2.at 43 rfl) rfl rfl ?_
  refine sw_iload_n (dL_law_2.at 44 rfl) rfl rfl ?_
  refine sw_iconst (dL_law_2.at 45 rfl) ?_
  refine sw_iadd (dL_law_2.at 46 rfl) ?_
  refine sw_topI (y := ((ii + 2 : Nat) : Int)) (by first | rfl | (congr 1)) ?_
  refine sw_sld (dL_law_2.at 47 rfl) hG hv.1 hv.2.1 ?_
  replace hv := hv.2.2
  refine sw_callV (B' := BL) (As := [vi ((G.2.2 (((ii + 1 : Nat) : Int).toNat)).toInt), vi ((G.2.2 (((ii + 2 : Nat) : Int).toNat)).toInt)]) (mc := 0) (ms := 0) (dL_law_2.at 48 rfl) lk_L_36 (S_lt 0 (by decide)) (S_0 nw nx g) rfl rfl (Nat.le_of_ble_eq_true rfl) rfl hB1 hB2 ?_
  refine c_X8_bond (x := ((G.2.2 (((ii + 1 : Nat) : Int).toNat)).toInt)) (y := ((G.2.2 (((ii + 2 : Nat) : Int).toNat)).toInt)) (P := P) (j := j + 38) hv.1 hv.2.1 hv.2.2.1 hv.2.2.2.1 hv.2.2.2.2.1 ?_
  replace hv := hv.2.2.2.2.2
  refine sw_aload_n (dL_law_2.at 49 rfl) rfl rfl ?_
  refine sw_aload_nf (dL_law_3.at 0 rfl) rfl rfl ?_
  refine sw_iload_n (dL_law_3.at 1 rfl) rfl rfl ?_
  refine sw_iconst (dL_law_3.at 2 rfl) ?_
  refine sw_iadd (dL_law_3.at 3 rfl) ?_
  refine sw_topI (y := ((ii + 1 : Nat) : Int)) (by first | rfl | (congr 1)) ?_
  refine sw_sld (dL_law_3.at 4 rfl) hG hv.1 hv.2.1 ?_
  replace hv := hv.2.2
  refine sw_aload_nf (dL_law_3.at 5 rfl) rfl rfl ?_
  refine sw_iload_n (dL_law_3.at 6 rfl) rfl rfl ?_
  refine sw_iconst (dL_law_3.at 7 rfl) ?_
  refine sw_iadd (dL_law_3.at 8 rfl) ?_
  refine sw_topI (y := ((ii + 2 : Nat) : Int)) (by first | rfl | (congr 1)) ?_
  refine sw_sld (dL_law_3.at 9 rfl) hG hv.1 hv.2.1 ?_
  replace hv := hv.2.2
  refine sw_callV (B' := BL) (As := [vi ((G.2.2 (((ii + 1 : Nat) : Int).toNat)).toInt), vi ((G.2.2 (((ii + 2 : Nat) : Int).toNat)).toInt)]) (mc := 0) (ms := 0) (dL_law_3.at 10 rfl) lk_L_40 (S_lt 49 (by decide)) (S_49 nw nx g) rfl rfl (Nat.le_of_ble_eq_true rfl) rfl hB1 hB2 ?_
  refine c_X9_bond (x := ((G.2.2 (((ii + 1 : Nat) : Int).toNat)).toInt)) (y := ((G.2.2 (((ii + 2 : Nat) : Int).toNat)).toInt)) (P := P) (j := j + 38) hv.1 hv.2.1 hv.2.2.1 hv.2.2.2.1 (fun c_1 h_1 => ?_)
  replace hv := hv.2.2.2.2 c_1 h_1
  refine sw_icmp_same (tgt := 2308) (dL_law_3.at 11 rfl) (by decide) ?_
  exact hv

theorem cs_bond {G : GG} {j nw nx gn : Nat} {g : Nat → Sh} {c : Nat → Nat → Int} {post : Option AV → AM → Prop} {BL : BB} {P : GD} {T : PT} {ln : Nat} {bo : Nat → Nat} {n : Nat} {nb : Nat → Nat} {MT : Nat} {MA : Nat} {ii : Nat} (hG : G.2.1 < 2147483648) (hB1 : BL.1 ≤ BL.2.2.1) (hB2 : BL.2.1 ≤ BL.2.2.2) (hii : ii + 6 ≤ G.2.1) (hv : INV c nw nx P T ln bo n nb MT MA) (K : ∀ c2 : Nat → Nat → Int, INV c2 nw nx P T ln bo n nb MT MA → SW G (j + 40) mL_law 2308 [some (vf 0), some (vr (0)), some (vr (49)), some (vi (((ii : Nat) : Int)))] [] (S nw nx g, 78 + gn, c2) BL post) : SW G (j + 40) mL_law 461 [some (vf 0), some (vr (0)), some (vr (49)), some (vi (((ii : Nat) : Int)))] [] (S nw nx g, 78 + gn, c) BL post := by
  have hv0 := hv
  obtain ⟨hIT, hIP, hIR, hIE, ⟨hwx, hSP, ⟨⟨hV, hC, hDn, hSi⟩, ⟨hOr, hMi, hSp, hBr, hBt⟩, ⟨hLa, hGP, hP0, hHT⟩, hMv⟩, hbo, hbl, hE, hM, hln⟩, ⟨hPR, hCR, hRR⟩, hIM⟩ := hv
  have hIM0 := hIM
  obtain ⟨⟨hMT60, hMA30, hMA0, hMf, hMs⟩, ⟨hM1, hM2, hM3, hM4⟩, hM5, hM6⟩ := hIM
  have hnw : nw = 21 ∨ nw = 35 := by omega
  have hRb := hC.1.1
  have hLn := hC.1.2
  have hLn2 : ∀ s, s < gR P → s + 1 < gN P := hC.1.2
  refine g_law_bond (P := P) hG hB1 hB2 ?_
  refine ⟨?_, ?_, ⟨?_, ?_, ⟨?_, ?_, ?_, ?_, ?_, ⟨?_, ?_, ⟨?_, ?_, ⟨?_, ?_, ?_, ?_, fun c_1 h_1 => ?_⟩⟩⟩⟩⟩⟩
  all_goals first | assumption | omega | exact i32rng _ | exact K _ (INV_SC hv0 h_1)

set_option maxHeartbeats 2000000 in
set_option maxRecDepth 20000 in
theorem g_law_length {G : GG} {j nw nx gn : Nat} {g : Nat → Sh} {c : Nat → Nat → Int} {post : Option AV → AM → Prop} {BL : BB} {P : GD} {ii : Nat} (hG : G.2.1 < 2147483648) (hB1 : BL.1 ≤ BL.2.2.1) (hB2 : BL.2.1 ≤ BL.2.2.2)  (hv : (0 ≤ ((ii + 1 : Nat) : Int)) ∧ (((ii + 1 : Nat) : Int) < (G.2.1 : Int)) ∧ ((nw = 21 ∨ nw = 35) ∧ (EL c nw P) ∧ (GV P) ∧ (-2147483648 ≤ ((G.2.2 (((ii + 1 : Nat) : Int).toNat)).toInt) ∧ ((G.2.2 (((ii + 1 : Nat) : Int).toNat)).toInt) < 2147483648) ∧ ((0 ≤ ((ii + 1 : Nat) : Int)) ∧ (((ii + 1 : Nat) : Int) < (G.2.1 : Int)) ∧ ((ML c P) ∧ (GV P) ∧ (-2147483648 ≤ ((G.2.2 (((ii + 1 : Nat) : Int).toNat)).toInt) ∧ ((G.2.2 (((ii + 1 : Nat) : Int).toNat)).toInt) < 2147483648) ∧ (∀ c_1 : Nat → Nat → Int, SC c c_1 → SW G (j + 40) mL_law 2308 [some (vf 0), some (vr (0)), some (vr (49)), some (vi (((ii : Nat) : Int)))] [] (S nw nx g, 78 + gn, c_1) BL post))))) :
    SW G (j + 40) mL_law 494 [some (vf 0), some (vr (0)), some (vr (49)), some (vi (((ii : Nat) : Int)))] [] (S nw nx g, 78 + gn, c) BL post := by
  refine sw_aload_n (dL_law_3.at 14 rfl) rfl rfl ?_
  refine sw_aload_nf (dL_law_3.at 15 rfl) rfl rfl ?_
  refine sw_iload_n (dL_law_3.at 16 rfl) rfl rfl ?_
  refine sw_iconst (dL_law_3.at 17 rfl) ?_
  refine sw_iadd (dL_law_3.at 18 rfl) ?_
  refine sw_topI (y := ((ii + 1 : Nat) : Int)) (by first | rfl | (congr 1)) ?_
  refine sw_sld (dL_law_3.at 19 rfl) hG hv.1 hv.2.1 ?_
  replace hv := hv.2.2
  refine sw_callV (B' := BL) (As := [vi ((G.2.2 (((ii + 1 : Nat) : Int).toNat)).toInt)]) (mc := 0) (ms := 0) (dL_law_3.at 20 rfl) lk_L_41 (S_lt 0 (by decide)) (S_0 nw nx g) rfl rfl (Nat.le_of_ble_eq_true rfl) rfl hB1 hB2 ?_
  refine c_X8_length (x := ((G.2.2 (((ii + 1 : Nat) : Int).toNat)).toInt)) (P := P) (j := j + 38) hv.1 hv.2.1 hv.2.2.1 hv.2.2.2.1 ?_
  replace hv := hv.2.2.2.2
  refine sw_aload_n (dL_law_3.at 21 rfl) rfl rfl ?_
  refine sw_aload_nf (dL_law_3.at 22 rfl) rfl rfl ?_
  refine sw_iload_n (dL_law_3.at 23 rfl) rfl rfl ?_
  refine sw_iconst (dL_law_3.at 24 rfl) ?_
  refine sw_iadd (dL_law_3.at 25 rfl) ?_
  refine sw_topI (y := ((ii + 1 : Nat) : Int)) (by first | rfl | (congr 1)) ?_
  refine sw_sld (dL_law_3.at 26 rfl) hG hv.1 hv.2.1 ?_
  replace hv := hv.2.2
  refine sw_callV (B' := BL) (As := [vi ((G.2.2 (((ii + 1 : Nat) : Int).toNat)).toInt)]) (mc := 0) (ms := 0) (dL_law_3.at 27 rfl) lk_L_44 (S_lt 49 (by decide)) (S_49 nw nx g) rfl rfl (Nat.le_of_ble_eq_true rfl) rfl hB1 hB2 ?_
  refine c_X9_length (x := ((G.2.2 (((ii + 1 : Nat) : Int).toNat)).toInt)) (P := P) (j := j + 37) hv.1 hv.2.1 hv.2.2.1 (fun c_1 h_1 => ?_)
  replace hv := hv.2.2.2 c_1 h_1
  refine sw_icmp_same (tgt := 2308) (dL_law_3.at 28 rfl) (by decide) ?_
  exact hv

theorem cs_length {G : GG} {j nw nx gn : Nat} {g : Nat → Sh} {c : Nat → Nat → Int} {post : Option AV → AM → Prop} {BL : BB} {P : GD} {T : PT} {ln : Nat} {bo : Nat → Nat} {n : Nat} {nb : Nat → Nat} {MT : Nat} {MA : Nat} {ii : Nat} (hG : G.2.1 < 2147483648) (hB1 : BL.1 ≤ BL.2.2.1) (hB2 : BL.2.1 ≤ BL.2.2.2) (hii : ii + 6 ≤ G.2.1) (hv : INV c nw nx P T ln bo n nb MT MA) (K : ∀ c2 : Nat → Nat → Int, INV c2 nw nx P T ln bo n nb MT MA → SW G (j + 40) mL_law 2308 [some (vf 0), some (vr (0)), some (vr (49)), some (vi (((ii : Nat) : Int)))] [] (S nw nx g, 78 + gn, c2) BL post) : SW G (j + 40) mL_law 494 [some (vf 0), some (vr (0)), some (vr (49)), some (vi (((ii : Nat) : Int)))] [] (S nw nx g, 78 + gn, c) BL post := by
  have hv0 := hv
  obtain ⟨hIT, hIP, hIR, hIE, ⟨hwx, hSP, ⟨⟨hV, hC, hDn, hSi⟩, ⟨hOr, hMi, hSp, hBr, hBt⟩, ⟨hLa, hGP, hP0, hHT⟩, hMv⟩, hbo, hbl, hE, hM, hln⟩, ⟨hPR, hCR, hRR⟩, hIM⟩ := hv
  have hIM0 := hIM
  obtain ⟨⟨hMT60, hMA30, hMA0, hMf, hMs⟩, ⟨hM1, hM2, hM3, hM4⟩, hM5, hM6⟩ := hIM
  have hnw : nw = 21 ∨ nw = 35 := by omega
  have hRb := hC.1.1
  have hLn := hC.1.2
  have hLn2 : ∀ s, s < gR P → s + 1 < gN P := hC.1.2
  refine g_law_length (P := P) hG hB1 hB2 ?_
  refine ⟨?_, ?_, ⟨?_, ?_, ?_, ?_, ⟨?_, ?_, ⟨?_, ?_, ?_, fun c_1 h_1 => ?_⟩⟩⟩⟩
  all_goals first | assumption | omega | exact i32rng _ | exact K _ (INV_SC hv0 h_1)

set_option maxHeartbeats 2000000 in
set_option maxRecDepth 20000 in
theorem g_law_letter {G : GG} {j nw nx gn : Nat} {g : Nat → Sh} {c : Nat → Nat → Int} {post : Option AV → AM → Prop} {BL : BB} {P : GD} {ii : Nat} (hG : G.2.1 < 2147483648) (hB1 : BL.1 ≤ BL.2.2.1) (hB2 : BL.2.1 ≤ BL.2.2.2)  (hv : (0 ≤ ((ii + 1 : Nat) : Int)) ∧ (((ii + 1 : Nat) : Int) < (G.2.1 : Int)) ∧ ((0 ≤ ((ii + 2 : Nat) : Int)) ∧ (((ii + 2 : Nat) : Int) < (G.2.1 : Int)) ∧ ((nw = 21 ∨ nw = 35) ∧ (EL c nw P) ∧ (GV P) ∧ (-2147483648 ≤ ((G.2.2 (((ii + 1 : Nat) : Int).toNat)).toInt) ∧ ((G.2.2 (((ii + 1 : Nat) : Int).toNat)).toInt) < 2147483648) ∧ (-2147483648 ≤ ((G.2.2 (((ii + 2 : Nat) : Int).toNat)).toInt) ∧ ((G.2.2 (((ii + 2 : Nat) : Int).toNat)).toInt) < 2147483648) ∧ ((0 ≤ ((ii + 1 : Nat) : Int)) ∧ (((ii + 1 : Nat) : Int) < (G.2.1 : Int)) ∧ ((0 ≤ ((ii + 2 : Nat) : Int)) ∧ (((ii + 2 : Nat) : Int) < (G.2.1 : Int)) ∧ ((ML c P) ∧ (GV P) ∧ (GC P) ∧ (-2147483648 ≤ ((G.2.2 (((ii + 1 : Nat) : Int).toNat)).toInt) ∧ ((G.2.2 (((ii + 1 : Nat) : Int).toNat)).toInt) < 2147483648) ∧ (-2147483648 ≤ ((G.2.2 (((ii + 2 : Nat) : Int).toNat)).toInt) ∧ ((G.2.2 (((ii + 2 : Nat) : Int).toNat)).toInt) < 2147483648) ∧ (∀ c_1 : Nat → Nat → Int, SC c c_1 → SW G (j + 40) mL_law 2308 [some (vf 0), some (vr (0)), some (vr (49)), some (vi (((ii : Nat) : Int)))] [] (S nw nx g, 78 + gn, c_1) BL post))))))) :
    SW G (j + 40) mL_law 517 [some (vf 0), some (vr (0)), some (vr (49)), some (vi (((ii : Nat) : Int)))] [] (S nw nx g, 78 + gn, c) BL post := by
  refine sw_aload_n (dL_law_3.at 31 rfl) rfl rfl ?_
  refine sw_aload_nf (dL_law_3.at 32 rfl) rfl rfl ?_
  refine sw_iload_n (dL_law_3.at 33 rfl) rfl rfl ?_
  refine sw_iconst (dL_law_3.at 34 rfl) ?_
  refine sw_iadd (dL_law_3.at 35 rfl) ?_
  refine sw_topI (y := ((ii + 1 : Nat) : Int)) (by first | rfl | (congr 1)) ?_
  refine sw_sld (dL_law_3.at 36 rfl) hG hv.1 hv.2.1 ?_
  replace hv := hv.2.2
  refine sw_aload_nf (dL_law_3.at 37 rfl) rfl rfl ?_
  refine sw_iload_n (dL_law_3.at 38 rfl) rfl rfl ?_
  refine sw_iconst (dL_law_3.at 39 rfl) ?_
  refine sw_iadd (dL_law_3.at 40 rfl) ?_
  refine sw_topI (y := ((ii + 2 : Nat) : Int)) (by first | rfl | (congr 1)) ?_
  refine sw_sld (dL_law_3.at 41 rfl) hG hv.1 hv.2.1 ?_
  replace hv := hv.2.2
  refine sw_callV (B' := BL) (As := [vi ((G.2.2 (((ii + 1 : Nat) : Int).toNat)).toInt), vi ((G.2.2 (((ii + 2 : Nat) : Int).toNat)).toInt)]) (mc := 0) (ms := 0) (dL_law_3.at 42 rfl) lk_L_45 (S_lt 0 (by decide)) (S_0 nw nx g) rfl rfl (Nat.le_of_ble_eq_true rfl) rfl hB1 hB2 ?_
  refine c_X8_letter (x := ((G.2.2 (((ii + 1 : Nat) : Int).toNat)).toInt)) (i := ((G.2.2 (((ii + 2 : Nat) : Int).toNat)).toInt)) (P := P) (j := j + 38) hv.1 hv.2.1 hv.2.2.1 hv.2.2.2.1 hv.2.2.2.2.1 ?_
  replace hv := hv.2.2.2.2.2
  refine sw_aload_n (dL_law_3.at 43 rfl) rfl rfl ?_
  refine sw_aload_nf (dL_law_3.at 44 rfl) rfl rfl ?_
  refine sw_iload_n (dL_law_3.at 45 rfl) rfl rfl ?_
  refine sw_iconst (dL_law_3.at 46 rfl) ?_
  refine sw_iadd (dL_law_3.at 47 rfl) ?_
  refine sw_topI (y := ((ii + 1 : Nat) : Int)) (by first | rfl | (congr 1)) ?_
  refine sw_sld (dL_law_3.at 48 rfl) hG hv.1 hv.2.1 ?_
  replace hv := hv.2.2
  refine sw_aload_nf (dL_law_3.at 49 rfl) rfl rfl ?_
  refine sw_iload_n (dL_law_4.at 0 rfl) rfl rfl ?_
  refine sw_iconst (dL_law_4.at 1 rfl) ?_
  refine sw_iadd (dL_law_4.at 2 rfl) ?_
  refine sw_topI (y := ((ii + 2 : Nat) : Int)) (by first | rfl | (congr 1)) ?_
  refine sw_sld (dL_law_4.at 3 rfl) hG hv.1 hv.2.1 ?_
  replace hv := hv.2.2
  refine sw_callV (B' := BL) (As := [vi ((G.2.2 (((ii + 1 : Nat) : Int).toNat)).toInt), vi ((G.2.2 (((ii + 2 : Nat) : Int).toNat)).toInt)]) (mc := 0) (ms := 0) (dL_law_4.at 4 rfl) lk_L_48 (S_lt 49 (by decide)) (S_49 nw nx g) rfl rfl (Nat.le_of_ble_eq_true rfl) rfl hB1 hB2 ?_
  refine c_X9_letter (x := ((G.2.2 (((ii + 1 : Nat) : Int).toNat)).toInt)) (i := ((G.2.2 (((ii + 2 : Nat) : Int).toNat)).toInt)) (P := P) (j := j + 37) hv.1 hv.2.1 hv.2.2.1 hv.2.2.2.1 hv.2.2.2.2.1 (fun c_1 h_1 => ?_)
  replace hv := hv.2.2.2.2.2 c_1 h_1
  refine sw_icmp_same (tgt := 2308) (dL_law_4.at 5 rfl) (by decide) ?_
  exact hv

theorem cs_letter {G : GG} {j nw nx gn : Nat} {g : Nat → Sh} {c : Nat → Nat → Int} {post : Option AV → AM → Prop} {BL : BB} {P : GD} {T : PT} {ln : Nat} {bo : Nat → Nat} {n : Nat} {nb : Nat → Nat} {MT : Nat} {MA : Nat} {ii : Nat} (hG : G.2.1 < 2147483648) (hB1 : BL.1 ≤ BL.2.2.1) (hB2 : BL.2.1 ≤ BL.2.2.2) (hii : ii + 6 ≤ G.2.1) (hv : INV c nw nx P T ln bo n nb MT MA) (K : ∀ c2 : Nat → Nat → Int, INV c2 nw nx P T ln bo n nb MT MA → SW G (j + 40) mL_law 2308 [some (vf 0), some (vr (0)), some (vr (49)), some (vi (((ii : Nat) : Int)))] [] (S nw nx g, 78 + gn, c2) BL post) : SW G (j + 40) mL_law 517 [some (vf 0), some (vr (0)), some (vr (49)), some (vi (((ii : Nat) : Int)))] [] (S nw nx g, 78 + gn, c) BL post := by
  have hv0 := hv
  obtain ⟨hIT, hIP, hIR, hIE, ⟨hwx, hSP, ⟨⟨hV, hC, hDn, hSi⟩, ⟨hOr, hMi, hSp, hBr, hBt⟩, ⟨hLa, hGP, hP0, hHT⟩, hMv⟩, hbo, hbl, hE, hM, hln⟩, ⟨hPR, hCR, hRR⟩, hIM⟩ := hv
  have hIM0 := hIM
  obtain ⟨⟨hMT60, hMA30, hMA0, hMf, hMs⟩, ⟨hM1, hM2, hM3, hM4⟩, hM5, hM6⟩ := hIM
  have hnw : nw = 21 ∨ nw = 35 := by omega
  have hRb := hC.1.1
  have hLn := hC.1.2
  have hLn2 : ∀ s, s < gR P → s + 1 < gN P := hC.1.2
  refine g_law_letter (P := P) hG hB1 hB2 ?_
  refine ⟨?_, ?_, ⟨?_, ?_, ⟨?_, ?_, ?_, ?_, ?_, ⟨?_, ?_, ⟨?_, ?_, ⟨?_, ?_, ?_, ?_, ?_, fun c_1 h_1 => ?_⟩⟩⟩⟩⟩⟩
  all_goals first | assumption | omega | exact i32rng _ | exact K _ (INV_SC hv0 h_1)

set_option maxHeartbeats 2000000 in
set_option maxRecDepth 20000 in
theorem g_law_spellings {G : GG} {j nw nx gn : Nat} {g : Nat → Sh} {c : Nat → Nat → Int} {post : Option AV → AM → Prop} {BL : BB} {P : GD} {ii : Nat} (hG : G.2.1 < 2147483648) (hB1 : BL.1 ≤ BL.2.2.1) (hB2 : BL.2.1 ≤ BL.2.2.2)  (hv : (0 ≤ ((ii + 1 : Nat) : Int)) ∧ (((ii + 1 : Nat) : Int) < (G.2.1 : Int)) ∧ ((nw = 21 ∨ nw = 35) ∧ (EL c nw P) ∧ (GV P) ∧ (-2147483648 ≤ ((G.2.2 (((ii + 1 : Nat) : Int).toNat)).toInt) ∧ ((G.2.2 (((ii + 1 : Nat) : Int).toNat)).toInt) < 2147483648) ∧ ((0 ≤ ((ii + 1 : Nat) : Int)) ∧ (((ii + 1 : Nat) : Int) < (G.2.1 : Int)) ∧ ((ML c P) ∧ (GV P) ∧ (GC P) ∧ (hSp P) ∧ (-2147483648 ≤ ((G.2.2 (((ii + 1 : Nat) : Int).toNat)).toInt) ∧ ((G.2.2 (((ii + 1 : Nat) : Int).toNat)).toInt) < 2147483648) ∧ (∀ c_1 : Nat → Nat → Int, SC c c_1 → SW G (j + 40) mL_law 2308 [some (vf 0), some (vr (0)), some (vr (49)), some (vi (((ii : Nat) : Int)))] [] (S nw nx g, 78 + gn, c_1) BL post))))) :
    SW G (j + 40) mL_law 563 [some (vf 0), some (vr (0)), some (vr (49)), some (vi (((ii : Nat) : Int)))] [] (S nw nx g, 78 + gn, c) BL post := by
  refine sw_aload_n (dL_law_4.at 15 rfl) rfl rfl ?_
  refine sw_aload_nf (dL_law_4.at 16 rfl) rfl rfl ?_
  refine sw_iload_n (dL_law_4.at 17 rfl) rfl rfl ?_
  refine sw_iconst (dL_law_4.at 18 rfl) ?_
  refine sw_iadd (dL_law_4.at 19 rfl) ?_
  refine sw_topI (y := ((ii + 1 : Nat) : Int)) (by first | rfl | (congr 1)) ?_
  refine sw_sld (dL_law_4.at 20 rfl) hG hv.1 hv.2.1 ?_
  replace hv := hv.2.2
  refine sw_callV (B' := BL) (As := [vi ((G.2.2 (((ii + 1 : Nat) : Int).toNat)).toInt)]) (mc := 0) (ms := 0) (dL_law_4.at 21 rfl) lk_L_53 (S_lt 0 (by decide)) (S_0 nw nx g) rfl rfl (Nat.le_of_ble_eq_true rfl) rfl hB1 hB2 ?_
  refine c_X8_spellings (x := ((G.2.2 (((ii + 1 : Nat) : Int).toNat)).toInt)) (P := P) (j := j + 38) hv.1 hv.2.1 hv.2.2.1 hv.2.2.2.1 ?_
  replace hv := hv.2.2.2.2
  refine sw_aload_n (dL_law_4.at 22 rfl) rfl rfl ?_
  refine sw_aload_nf (dL_law_4.at 23 rfl) rfl rfl ?_
  refine sw_iload_n (dL_law_4.at 24 rfl) rfl rfl ?_
  refine sw_iconst (dL_law_4.at 25 rfl) ?_
  refine sw_iadd (dL_law_4.at 26 rfl) ?_
  refine sw_topI (y := ((ii + 1 : Nat) : Int)) (by first | rfl | (congr 1)) ?_
  refine sw_sld (dL_law_4.at 27 rfl) hG hv.1 hv.2.1 ?_
  replace hv := hv.2.2
  refine sw_callV (B' := BL) (As := [vi ((G.2.2 (((ii + 1 : Nat) : Int).toNat)).toInt)]) (mc := 0) (ms := 0) (dL_law_4.at 28 rfl) lk_L_57 (S_lt 49 (by decide)) (S_49 nw nx g) rfl rfl (Nat.le_of_ble_eq_true rfl) rfl hB1 hB2 ?_
  refine c_X9_spellings (x := ((G.2.2 (((ii + 1 : Nat) : Int).toNat)).toInt)) (P := P) (j := j + 23) hv.1 hv.2.1 hv.2.2.1 hv.2.2.2.1 hv.2.2.2.2.1 (fun c_1 h_1 => ?_)
  replace hv := hv.2.2.2.2.2 c_1 h_1
  refine sw_lcmp_same (tgt := 2308) (dL_law_4.at 29 rfl) (dL_law_4.at 30 rfl) (by decide) ?_
  exact hv

theorem cs_spellings {G : GG} {j nw nx gn : Nat} {g : Nat → Sh} {c : Nat → Nat → Int} {post : Option AV → AM → Prop} {BL : BB} {P : GD} {T : PT} {ln : Nat} {bo : Nat → Nat} {n : Nat} {nb : Nat → Nat} {MT : Nat} {MA : Nat} {ii : Nat} (hG : G.2.1 < 2147483648) (hB1 : BL.1 ≤ BL.2.2.1) (hB2 : BL.2.1 ≤ BL.2.2.2) (hii : ii + 6 ≤ G.2.1) (hv : INV c nw nx P T ln bo n nb MT MA) (K : ∀ c2 : Nat → Nat → Int, INV c2 nw nx P T ln bo n nb MT MA → SW G (j + 40) mL_law 2308 [some (vf 0), some (vr (0)), some (vr (49)), some (vi (((ii : Nat) : Int)))] [] (S nw nx g, 78 + gn, c2) BL post) : SW G (j + 40) mL_law 563 [some (vf 0), some (vr (0)), some (vr (49)), some (vi (((ii : Nat) : Int)))] [] (S nw nx g, 78 + gn, c) BL post := by
  have hv0 := hv
  obtain ⟨hIT, hIP, hIR, hIE, ⟨hwx, hSP, ⟨⟨hV, hC, hDn, hSi⟩, ⟨hOr, hMi, hSp, hBr, hBt⟩, ⟨hLa, hGP, hP0, hHT⟩, hMv⟩, hbo, hbl, hE, hM, hln⟩, ⟨hPR, hCR, hRR⟩, hIM⟩ := hv
  have hIM0 := hIM
  obtain ⟨⟨hMT60, hMA30, hMA0, hMf, hMs⟩, ⟨hM1, hM2, hM3, hM4⟩, hM5, hM6⟩ := hIM
  have hnw : nw = 21 ∨ nw = 35 := by omega
  have hRb := hC.1.1
  have hLn := hC.1.2
  have hLn2 : ∀ s, s < gR P → s + 1 < gN P := hC.1.2
  refine g_law_spellings (P := P) hG hB1 hB2 ?_
  refine ⟨?_, ?_, ⟨?_, ?_, ?_, ?_, ⟨?_, ?_, ⟨?_, ?_, ?_, ?_, ?_, fun c_1 h_1 => ?_⟩⟩⟩⟩
  all_goals first | assumption | omega | exact i32rng _ | exact K _ (INV_SC hv0 h_1)

set_option maxHeartbeats 2000000 in
set_option maxRecDepth 20000 in
theorem g_law_spelled {G : GG} {j nw nx gn : Nat} {g : Nat → Sh} {c : Nat → Nat → Int} {post : Option AV → AM → Prop} {BL : BB} {P : GD} {ii : Nat} (hG : G.2.1 < 2147483648) (hB1 : BL.1 ≤ BL.2.2.1) (hB2 : BL.2.1 ≤ BL.2.2.2)  (hv : (0 ≤ ((ii + 1 : Nat) : Int)) ∧ (((ii + 1 : Nat) : Int) < (G.2.1 : Int)) ∧ ((0 ≤ ((ii + 2 : Nat) : Int)) ∧ (((ii + 2 : Nat) : Int) < (G.2.1 : Int)) ∧ ((0 ≤ ((ii + 3 : Nat) : Int)) ∧ (((ii + 3 : Nat) : Int) < (G.2.1 : Int)) ∧ ((nw = 21 ∨ nw = 35) ∧ (EL c nw P) ∧ (GV P) ∧ (hLn P) ∧ (-2147483648 ≤ ((G.2.2 (((ii + 1 : Nat) : Int).toNat)).toInt) ∧ ((G.2.2 (((ii + 1 : Nat) : Int).toNat)).toInt) < 2147483648) ∧ (-2147483648 ≤ ((G.2.2 (((ii + 2 : Nat) : Int).toNat)).toInt) ∧ ((G.2.2 (((ii + 2 : Nat) : Int).toNat)).toInt) < 2147483648) ∧ (-2147483648 ≤ ((G.2.2 (((ii + 3 : Nat) : Int).toNat)).toInt) ∧ ((G.2.2 (((ii + 3 : Nat) : Int).toNat)).toInt) < 2147483648) ∧ ((0 ≤ ((ii + 1 : Nat) : Int)) ∧ (((ii + 1 : Nat) : Int) < (G.2.1 : Int)) ∧ ((0 ≤ ((ii + 2 : Nat) : Int)) ∧ (((ii + 2 : Nat) : Int) < (G.2.1 : Int)) ∧ ((0 ≤ ((ii + 3 : Nat) : Int)) ∧ (((ii + 3 : Nat) : Int) < (G.2.1 : Int)) ∧ ((ML c P) ∧ (GV P) ∧ (GC P) ∧ (hSp P) ∧ (-2147483648 ≤ ((G.2.2 (((ii + 1 : Nat) : Int).toNat)).toInt) ∧ ((G.2.2 (((ii + 1 : Nat) : Int).toNat)).toInt) < 2147483648) ∧ (-2147483648 ≤ ((G.2.2 (((ii + 2 : Nat) : Int).toNat)).toInt) ∧ ((G.2.2 (((ii + 2 : Nat) : Int).toNat)).toInt) < 2147483648) ∧ (-2147483648 ≤ ((G.2.2 (((ii + 3 : Nat) : Int).toNat)).toInt) ∧ ((G.2.2 (((ii + 3 : Nat) : Int).toNat)).toInt) < 2147483648) ∧ (∀ c_1 : Nat → Nat → Int, SC c c_1 → SW G (j + 40) mL_law 2308 [some (vf 0), some (vr (0)), some (vr (49)), some (vi (((ii : Nat) : Int)))] [] (S nw nx g, 78 + gn, c_1) BL post))))))))) :
    SW G (j + 40) mL_law 587 [some (vf 0), some (vr (0)), some (vr (49)), some (vi (((ii : Nat) : Int)))] [] (S nw nx g, 78 + gn, c) BL post := by
  refine sw_aload_n (dL_law_4.at 33 rfl) rfl rfl ?_
  refine sw_aload_nf (dL_law_4.at 34 rfl) rfl rfl ?_
  refine sw_iload_n (dL_law_4.at 35 rfl) rfl rfl ?_
  refine sw_iconst (dL_law_4.at 36 rfl) ?_
  refine sw_iadd (dL_law_4.at 37 rfl) ?_
  refine sw_topI (y := ((ii + 1 : Nat) : Int)) (by first | rfl | (congr 1)) ?_
  refine sw_sld (dL_law_4.at 38 rfl) hG hv.1 hv.2.1 ?_
  replace hv := hv.2.2
  refine sw_aload_nf (dL_law_4.at 39 rfl) rfl rfl ?_
  refine sw_iload_n (dL_law_4.at 40 rfl) rfl rfl ?_
  refine sw_iconst (dL_law_4.at 41 rfl) ?_
  refine sw_iadd (dL_law_4.at 42 rfl) ?_
  refine sw_topI (y := ((ii + 2 : Nat) : Int)) (by first | rfl | (congr 1)) ?_
  refine sw_sld (dL_law_4.at 43 rfl) hG hv.1 hv.2.1 ?_
  replace hv := hv.2.2
  refine sw_aload_nf (dL_law_4.at 44 rfl) rfl rfl ?_
  refine sw_iload_n (dL_law_4.at 45 rfl) rfl rfl ?_
  refine sw_iconst (dL_law_4.at 46 rfl) ?_
  refine sw_iadd (dL_law_4.at 47 rfl) ?_
  refine sw_topI (y := ((ii + 3 : Nat) : Int)) (by first | rfl | (congr 1)) ?_
  refine sw_sld (dL_law_4.at 48 rfl) hG hv.1 hv.2.1 ?_
  replace hv := hv.2.2
  refine sw_callV (B' := BL) (As := [vi ((G.2.2 (((ii + 1 : Nat) : Int).toNat)).toInt), vi ((G.2.2 (((ii + 2 : Nat) : Int).toNat)).toInt), vi ((G.2.2 (((ii + 3 : Nat) : Int).toNat)).toInt)]) (mc := 0) (ms := 0) (dL_law_4.at 49 rfl) lk_L_58 (S_lt 0 (by decide)) (S_0 nw nx g) rfl rfl (Nat.le_of_ble_eq_true rfl) rfl hB1 hB2 ?_
  refine c_X8_spelled (x := ((G.2.2 (((ii + 1 : Nat) : Int).toNat)).toInt)) (k := ((G.2.2 (((ii + 2 : Nat) : Int).toNat)).toInt)) (i := ((G.2.2 (((ii + 3 : Nat) : Int).toNat)).toInt)) (P := P) (j := j + 36) hv.1 hv.2.1 hv.2.2.1 hv.2.2.2.1 hv.2.2.2.2.1 hv.2.2.2.2.2.1 hv.2.2.2.2.2.2.1 ?_
  replace hv := hv.2.2.2.2.2.2.2
  refine sw_aload_n (dL_law_5.at 0 rfl) rfl rfl ?_
  refine sw_aload_nf (dL_law_5.at 1 rfl) rfl rfl ?_
  refine sw_iload_n (dL_law_5.at 2 rfl) rfl rfl ?_
  refine sw_iconst (dL_law_5.at 3 rfl) ?_
  refine sw_iadd (dL_law_5.at 4 rfl) ?_
  refine sw_topI (y := ((ii + 1 : Nat) : Int)) (by first | rfl | (congr 1)) ?_
  refine sw_sld (dL_law_5.at 5 rfl) hG hv.1 hv.2.1 ?_
  replace hv := hv.2.2
  refine sw_aload_nf (dL_law_5.at 6 rfl) rfl rfl ?_
  refine sw_iload_n (dL_law_5.at 7 rfl) rfl rfl ?_
  refine sw_iconst (dL_law_5.at 8 rfl) ?_
  refine sw_iadd (dL_law_5.at 9 rfl) ?_
  refine sw_topI (y := ((ii + 2 : Nat) : Int)) (by first | rfl | (congr 1)) ?_
  refine sw_sld (dL_law_5.at 10 rfl) hG hv.1 hv.2.1 ?_
  replace hv := hv.2.2
  refine sw_aload_nf (dL_law_5.at 11 rfl) rfl rfl ?_
  refine sw_iload_n (dL_law_5.at 12 rfl) rfl rfl ?_
  refine sw_iconst (dL_law_5.at 13 rfl) ?_
  refine sw_iadd (dL_law_5.at 14 rfl) ?_
  refine sw_topI (y := ((ii + 3 : Nat) : Int)) (by first | rfl | (congr 1)) ?_
  refine sw_sld (dL_law_5.at 15 rfl) hG hv.1 hv.2.1 ?_
  replace hv := hv.2.2
  refine sw_callV (B' := BL) (As := [vi ((G.2.2 (((ii + 1 : Nat) : Int).toNat)).toInt), vi ((G.2.2 (((ii + 2 : Nat) : Int).toNat)).toInt), vi ((G.2.2 (((ii + 3 : Nat) : Int).toNat)).toInt)]) (mc := 0) (ms := 0) (dL_law_5.at 16 rfl) lk_L_62 (S_lt 49 (by decide)) (S_49 nw nx g) rfl rfl (Nat.le_of_ble_eq_true rfl) rfl hB1 hB2 ?_
  refine c_X9_spelled (x := ((G.2.2 (((ii + 1 : Nat) : Int).toNat)).toInt)) (k := ((G.2.2 (((ii + 2 : Nat) : Int).toNat)).toInt)) (i := ((G.2.2 (((ii + 3 : Nat) : Int).toNat)).toInt)) (P := P) (j := j + 22) hv.1 hv.2.1 hv.2.2.1 hv.2.2.2.1 hv.2.2.2.2.1 hv.2.2.2.2.2.1 hv.2.2.2.2.2.2.1 (fun c_1 h_1 => ?_)
  replace hv := hv.2.2.2.2.2.2.2 c_1 h_1
  refine sw_icmp_same (tgt := 2308) (dL_law_5.at 17 rfl) (by decide) ?_
  exact hv

theorem cs_spelled {G : GG} {j nw nx gn : Nat} {g : Nat → Sh} {c : Nat → Nat → Int} {post : Option AV → AM → Prop} {BL : BB} {P : GD} {T : PT} {ln : Nat} {bo : Nat → Nat} {n : Nat} {nb : Nat → Nat} {MT : Nat} {MA : Nat} {ii : Nat} (hG : G.2.1 < 2147483648) (hB1 : BL.1 ≤ BL.2.2.1) (hB2 : BL.2.1 ≤ BL.2.2.2) (hii : ii + 6 ≤ G.2.1) (hv : INV c nw nx P T ln bo n nb MT MA) (K : ∀ c2 : Nat → Nat → Int, INV c2 nw nx P T ln bo n nb MT MA → SW G (j + 40) mL_law 2308 [some (vf 0), some (vr (0)), some (vr (49)), some (vi (((ii : Nat) : Int)))] [] (S nw nx g, 78 + gn, c2) BL post) : SW G (j + 40) mL_law 587 [some (vf 0), some (vr (0)), some (vr (49)), some (vi (((ii : Nat) : Int)))] [] (S nw nx g, 78 + gn, c) BL post := by
  have hv0 := hv
  obtain ⟨hIT, hIP, hIR, hIE, ⟨hwx, hSP, ⟨⟨hV, hC, hDn, hSi⟩, ⟨hOr, hMi, hSp, hBr, hBt⟩, ⟨hLa, hGP, hP0, hHT⟩, hMv⟩, hbo, hbl, hE, hM, hln⟩, ⟨hPR, hCR, hRR⟩, hIM⟩ := hv
  have hIM0 := hIM
  obtain ⟨⟨hMT60, hMA30, hMA0, hMf, hMs⟩, ⟨hM1, hM2, hM3, hM4⟩, hM5, hM6⟩ := hIM
  have hnw : nw = 21 ∨ nw = 35 := by omega
  have hRb := hC.1.1
  have hLn := hC.1.2
  have hLn2 : ∀ s, s < gR P → s + 1 < gN P := hC.1.2
  refine g_law_spelled (P := P) hG hB1 hB2 ?_
  refine ⟨?_, ?_, ⟨?_, ?_, ⟨?_, ?_, ⟨?_, ?_, ?_, ?_, ?_, ?_, ?_, ⟨?_, ?_, ⟨?_, ?_, ⟨?_, ?_, ⟨?_, ?_, ?_, ?_, ?_, ?_, ?_, fun c_1 h_1 => ?_⟩⟩⟩⟩⟩⟩⟩⟩
  all_goals first | assumption | omega | exact i32rng _ | exact K _ (INV_SC hv0 h_1)

set_option maxHeartbeats 2000000 in
set_option maxRecDepth 20000 in
theorem g_law_times {G : GG} {j nw nx gn : Nat} {g : Nat → Sh} {c : Nat → Nat → Int} {post : Option AV → AM → Prop} {BL : BB} {P : GD} {ii : Nat} (hG : G.2.1 < 2147483648) (hB1 : BL.1 ≤ BL.2.2.1) (hB2 : BL.2.1 ≤ BL.2.2.2)  (hv : (0 ≤ ((ii + 1 : Nat) : Int)) ∧ (((ii + 1 : Nat) : Int) < (G.2.1 : Int)) ∧ ((0 ≤ ((ii + 2 : Nat) : Int)) ∧ (((ii + 2 : Nat) : Int) < (G.2.1 : Int)) ∧ ((nw = 21 ∨ nw = 35) ∧ (EL c nw P) ∧ (GV P) ∧ (-2147483648 ≤ ((G.2.2 (((ii + 1 : Nat) : Int).toNat)).toInt) ∧ ((G.2.2 (((ii + 1 : Nat) : Int).toNat)).toInt) < 2147483648) ∧ (-2147483648 ≤ ((G.2.2 (((ii + 2 : Nat) : Int).toNat)).toInt) ∧ ((G.2.2 (((ii + 2 : Nat) : Int).toNat)).toInt) < 2147483648) ∧ ((0 ≤ ((ii + 1 : Nat) : Int)) ∧ (((ii + 1 : Nat) : Int) < (G.2.1 : Int)) ∧ ((0 ≤ ((ii + 2 : Nat) : Int)) ∧ (((ii + 2 : Nat) : Int) < (G.2.1 : Int)) ∧ ((ML c P) ∧ (GV P) ∧ (GC P) ∧ (-2147483648 ≤ ((G.2.2 (((ii + 1 : Nat) : Int).toNat)).toInt) ∧ ((G.2.2 (((ii + 1 : Nat) : Int).toNat)).toInt) < 2147483648) ∧ (-2147483648 ≤ ((G.2.2 (((ii + 2 : Nat) : Int).toNat)).toInt) ∧ ((G.2.2 (((ii + 2 : Nat) : Int).toNat)).toInt) < 2147483648) ∧ (∀ c_1 : Nat → Nat → Int, SC c c_1 → SW G (j + 40) mL_law 2308 [some (vf 0), some (vr (0)), some (vr (49)), some (vi (((ii : Nat) : Int)))] [] (S nw nx g, 78 + gn, c_1) BL post))))))) :
    SW G (j + 40) mL_law 630 [some (vf 0), some (vr (0)), some (vr (49)), some (vi (((ii : Nat) : Int)))] [] (S nw nx g, 78 + gn, c) BL post := by
  refine sw_aload_n (dL_law_5.at 20 rfl) rfl rfl ?_
  refine sw_aload_nf (dL_law_5.at 21 rfl) rfl rfl ?_
  refine sw_iload_n (dL_law_5.at 22 rfl) rfl rfl ?_
  refine sw_iconst (dL_law_5.at 23 rfl) ?_
  refine sw_iadd (dL_law_5.at 24 rfl) ?_
  refine sw_topI (y := ((ii + 1 : Nat) : Int)) (by first | rfl | (congr 1)) ?_
  refine sw_sld (dL_law_5.at 25 rfl) hG hv.1 hv.2.1 ?_
  replace hv := hv.2.2
  refine sw_aload_nf (dL_law_5.at 26 rfl) rfl rfl ?_
  refine sw_iload_n (dL_law_5.at 27 rfl) rfl rfl ?_
  refine sw_iconst (dL_law_5.at 28 rfl) ?_
  refine sw_iadd (dL_law_5.at 29 rfl) ?_
  refine sw_topI (y := ((ii + 2 : Nat) : Int)) (by first | rfl | (congr 1)) ?_
  refine sw_sld (dL_law_5.at 30 rfl) hG hv.1 hv.2.1 ?_
  replace hv := hv.2.2
  refine sw_callV (B' := BL) (As := [vi ((G.2.2 (((ii + 1 : Nat) : Int).toNat)).toInt), vi ((G.2.2 (((ii + 2 : Nat) : Int).toNat)).toInt)]) (mc := 0) (ms := 0) (dL_law_5.at 31 rfl) lk_L_63 (S_lt 0 (by decide)) (S_0 nw nx g) rfl rfl (Nat.le_of_ble_eq_true rfl) rfl hB1 hB2 ?_
  refine c_X8_times (x := ((G.2.2 (((ii + 1 : Nat) : Int).toNat)).toInt)) (y := ((G.2.2 (((ii + 2 : Nat) : Int).toNat)).toInt)) (P := P) (j := j + 37) hv.1 hv.2.1 hv.2.2.1 hv.2.2.2.1 hv.2.2.2.2.1 ?_
  replace hv := hv.2.2.2.2.2
  refine sw_aload_n (dL_law_5.at 32 rfl) rfl rfl ?_
  refine sw_aload_nf (dL_law_5.at 33 rfl) rfl rfl ?_
  refine sw_iload_n (dL_law_5.at 34 rfl) rfl rfl ?_
  refine sw_iconst (dL_law_5.at 35 rfl) ?_
  refine sw_iadd (dL_law_5.at 36 rfl) ?_
  refine sw_topI (y := ((ii + 1 : Nat) : Int)) (by first | rfl | (congr 1)) ?_
  refine sw_sld (dL_law_5.at 37 rfl) hG hv.1 hv.2.1 ?_
  replace hv := hv.2.2
  refine sw_aload_nf (dL_law_5.at 38 rfl) rfl rfl ?_
  refine sw_iload_n (dL_law_5.at 39 rfl) rfl rfl ?_
  refine sw_iconst (dL_law_5.at 40 rfl) ?_
  refine sw_iadd (dL_law_5.at 41 rfl) ?_
  refine sw_topI (y := ((ii + 2 : Nat) : Int)) (by first | rfl | (congr 1)) ?_
  refine sw_sld (dL_law_5.at 42 rfl) hG hv.1 hv.2.1 ?_
  replace hv := hv.2.2
  refine sw_callV (B' := BL) (As := [vi ((G.2.2 (((ii + 1 : Nat) : Int).toNat)).toInt), vi ((G.2.2 (((ii + 2 : Nat) : Int).toNat)).toInt)]) (mc := 0) (ms := 0) (dL_law_5.at 43 rfl) lk_L_66 (S_lt 49 (by decide)) (S_49 nw nx g) rfl rfl (Nat.le_of_ble_eq_true rfl) rfl hB1 hB2 ?_
  refine c_X9_times (x := ((G.2.2 (((ii + 1 : Nat) : Int).toNat)).toInt)) (y := ((G.2.2 (((ii + 2 : Nat) : Int).toNat)).toInt)) (P := P) (j := j + 37) hv.1 hv.2.1 hv.2.2.1 hv.2.2.2.1 hv.2.2.2.2.1 (fun c_1 h_1 => ?_)
  replace hv := hv.2.2.2.2.2 c_1 h_1
  refine sw_icmp_same (tgt := 2308) (dL_law_5.at 44 rfl) (by decide) ?_
  exact hv

theorem cs_times {G : GG} {j nw nx gn : Nat} {g : Nat → Sh} {c : Nat → Nat → Int} {post : Option AV → AM → Prop} {BL : BB} {P : GD} {T : PT} {ln : Nat} {bo : Nat → Nat} {n : Nat} {nb : Nat → Nat} {MT : Nat} {MA : Nat} {ii : Nat} (hG : G.2.1 < 2147483648) (hB1 : BL.1 ≤ BL.2.2.1) (hB2 : BL.2.1 ≤ BL.2.2.2) (hii : ii + 6 ≤ G.2.1) (hv : INV c nw nx P T ln bo n nb MT MA) (K : ∀ c2 : Nat → Nat → Int, INV c2 nw nx P T ln bo n nb MT MA → SW G (j + 40) mL_law 2308 [some (vf 0), some (vr (0)), some (vr (49)), some (vi (((ii : Nat) : Int)))] [] (S nw nx g, 78 + gn, c2) BL post) : SW G (j + 40) mL_law 630 [some (vf 0), some (vr (0)), some (vr (49)), some (vi (((ii : Nat) : Int)))] [] (S nw nx g, 78 + gn, c) BL post := by
  have hv0 := hv
  obtain ⟨hIT, hIP, hIR, hIE, ⟨hwx, hSP, ⟨⟨hV, hC, hDn, hSi⟩, ⟨hOr, hMi, hSp, hBr, hBt⟩, ⟨hLa, hGP, hP0, hHT⟩, hMv⟩, hbo, hbl, hE, hM, hln⟩, ⟨hPR, hCR, hRR⟩, hIM⟩ := hv
  have hIM0 := hIM
  obtain ⟨⟨hMT60, hMA30, hMA0, hMf, hMs⟩, ⟨hM1, hM2, hM3, hM4⟩, hM5, hM6⟩ := hIM
  have hnw : nw = 21 ∨ nw = 35 := by omega
  have hRb := hC.1.1
  have hLn := hC.1.2
  have hLn2 : ∀ s, s < gR P → s + 1 < gN P := hC.1.2
  refine g_law_times (P := P) hG hB1 hB2 ?_
  refine ⟨?_, ?_, ⟨?_, ?_, ⟨?_, ?_, ?_, ?_, ?_, ⟨?_, ?_, ⟨?_, ?_, ⟨?_, ?_, ?_, ?_, ?_, fun c_1 h_1 => ?_⟩⟩⟩⟩⟩⟩
  all_goals first | assumption | omega | exact i32rng _ | exact K _ (INV_SC hv0 h_1)

set_option maxHeartbeats 2000000 in
set_option maxRecDepth 20000 in
theorem g_law_inverse {G : GG} {j nw nx gn : Nat} {g : Nat → Sh} {c : Nat → Nat → Int} {post : Option AV → AM → Prop} {BL : BB} {P : GD} {ii : Nat} (hG : G.2.1 < 2147483648) (hB1 : BL.1 ≤ BL.2.2.1) (hB2 : BL.2.1 ≤ BL.2.2.2)  (hv : (0 ≤ ((ii + 1 : Nat) : Int)) ∧ (((ii + 1 : Nat) : Int) < (G.2.1 : Int)) ∧ ((nw = 21 ∨ nw = 35) ∧ (EL c nw P) ∧ (GV P) ∧ (-2147483648 ≤ ((G.2.2 (((ii + 1 : Nat) : Int).toNat)).toInt) ∧ ((G.2.2 (((ii + 1 : Nat) : Int).toNat)).toInt) < 2147483648) ∧ ((0 ≤ ((ii + 1 : Nat) : Int)) ∧ (((ii + 1 : Nat) : Int) < (G.2.1 : Int)) ∧ ((ML c P) ∧ (GV P) ∧ (-2147483648 ≤ ((G.2.2 (((ii + 1 : Nat) : Int).toNat)).toInt) ∧ ((G.2.2 (((ii + 1 : Nat) : Int).toNat)).toInt) < 2147483648) ∧ (∀ c_1 : Nat → Nat → Int, SC c c_1 → SW G (j + 40) mL_law 2308 [some (vf 0), some (vr (0)), some (vr (49)), some (vi (((ii : Nat) : Int)))] [] (S nw nx g, 78 + gn, c_1) BL post))))) :
    SW G (j + 40) mL_law 663 [some (vf 0), some (vr (0)), some (vr (49)), some (vi (((ii : Nat) : Int)))] [] (S nw nx g, 78 + gn, c) BL post := by
  refine sw_aload_n (dL_law_5.at 47 rfl) rfl rfl ?_
  refine sw_aload_nf (dL_law_5.at 48 rfl) rfl rfl ?_
  refine sw_iload_n (dL_law_5.at 49 rfl) rfl rfl ?_
  refine sw_iconst (dL_law_6.at 0 rfl) ?_
  refine sw_iadd (dL_law_6.at 1 rfl) ?_
  refine sw_topI (y := ((ii + 1 : Nat) : Int)) (by first | rfl | (congr 1)) ?_
  refine sw_sld (dL_law_6.at 2 rfl) hG hv.1 hv.2.1 ?_
  replace hv := hv.2.2
  refine sw_callV (B' := BL) (As := [vi ((G.2.2 (((ii + 1 : Nat) : Int).toNat)).toInt)]) (mc := 0) (ms := 0) (dL_law_6.at 3 rfl) lk_L_67 (S_lt 0 (by decide)) (S_0 nw nx g) rfl rfl (Nat.le_of_ble_eq_true rfl) rfl hB1 hB2 ?_
  refine c_X8_inverse (x := ((G.2.2 (((ii + 1 : Nat) : Int).toNat)).toInt)) (P := P) (j := j + 38) hv.1 hv.2.1 hv.2.2.1 hv.2.2.2.1 ?_
  replace hv := hv.2.2.2.2
  refine sw_aload_n (dL_law_6.at 4 rfl) rfl rfl ?_
  refine sw_aload_nf (dL_law_6.at 5 rfl) rfl rfl ?_
  refine sw_iload_n (dL_law_6.at 6 rfl) rfl rfl ?_
  refine sw_iconst (dL_law_6.at 7 rfl) ?_
  refine sw_iadd (dL_law_6.at 8 rfl) ?_
  refine sw_topI (y := ((ii + 1 : Nat) : Int)) (by first | rfl | (congr 1)) ?_
  refine sw_sld (dL_law_6.at 9 rfl) hG hv.1 hv.2.1 ?_
  replace hv := hv.2.2
  refine sw_callV (B' := BL) (As := [vi ((G.2.2 (((ii + 1 : Nat) : Int).toNat)).toInt)]) (mc := 0) (ms := 0) (dL_law_6.at 10 rfl) lk_L_70 (S_lt 49 (by decide)) (S_49 nw nx g) rfl rfl (Nat.le_of_ble_eq_true rfl) rfl hB1 hB2 ?_
  refine c_X9_inverse (x := ((G.2.2 (((ii + 1 : Nat) : Int).toNat)).toInt)) (P := P) (j := j + 37) hv.1 hv.2.1 hv.2.2.1 (fun c_1 h_1 => ?_)
  replace hv := hv.2.2.2 c_1 h_1
  refine sw_icmp_same (tgt := 2308) (dL_law_6.at 11 rfl) (by decide) ?_
  exact hv

theorem cs_inverse {G : GG} {j nw nx gn : Nat} {g : Nat → Sh} {c : Nat → Nat → Int} {post : Option AV → AM → Prop} {BL : BB} {P : GD} {T : PT} {ln : Nat} {bo : Nat → Nat} {n : Nat} {nb : Nat → Nat} {MT : Nat} {MA : Nat} {ii : Nat} (hG : G.2.1 < 2147483648) (hB1 : BL.1 ≤ BL.2.2.1) (hB2 : BL.2.1 ≤ BL.2.2.2) (hii : ii + 6 ≤ G.2.1) (hv : INV c nw nx P T ln bo n nb MT MA) (K : ∀ c2 : Nat → Nat → Int, INV c2 nw nx P T ln bo n nb MT MA → SW G (j + 40) mL_law 2308 [some (vf 0), some (vr (0)), some (vr (49)), some (vi (((ii : Nat) : Int)))] [] (S nw nx g, 78 + gn, c2) BL post) : SW G (j + 40) mL_law 663 [some (vf 0), some (vr (0)), some (vr (49)), some (vi (((ii : Nat) : Int)))] [] (S nw nx g, 78 + gn, c) BL post := by
  have hv0 := hv
  obtain ⟨hIT, hIP, hIR, hIE, ⟨hwx, hSP, ⟨⟨hV, hC, hDn, hSi⟩, ⟨hOr, hMi, hSp, hBr, hBt⟩, ⟨hLa, hGP, hP0, hHT⟩, hMv⟩, hbo, hbl, hE, hM, hln⟩, ⟨hPR, hCR, hRR⟩, hIM⟩ := hv
  have hIM0 := hIM
  obtain ⟨⟨hMT60, hMA30, hMA0, hMf, hMs⟩, ⟨hM1, hM2, hM3, hM4⟩, hM5, hM6⟩ := hIM
  have hnw : nw = 21 ∨ nw = 35 := by omega
  have hRb := hC.1.1
  have hLn := hC.1.2
  have hLn2 : ∀ s, s < gR P → s + 1 < gN P := hC.1.2
  refine g_law_inverse (P := P) hG hB1 hB2 ?_
  refine ⟨?_, ?_, ⟨?_, ?_, ?_, ?_, ⟨?_, ?_, ⟨?_, ?_, ?_, fun c_1 h_1 => ?_⟩⟩⟩⟩
  all_goals first | assumption | omega | exact i32rng _ | exact K _ (INV_SC hv0 h_1)

set_option maxHeartbeats 2000000 in
set_option maxRecDepth 20000 in
theorem g_law_order {G : GG} {j nw nx gn : Nat} {g : Nat → Sh} {c : Nat → Nat → Int} {post : Option AV → AM → Prop} {BL : BB} {P : GD} {ii : Nat} (hG : G.2.1 < 2147483648) (hB1 : BL.1 ≤ BL.2.2.1) (hB2 : BL.2.1 ≤ BL.2.2.2)  (hv : (0 ≤ ((ii + 1 : Nat) : Int)) ∧ (((ii + 1 : Nat) : Int) < (G.2.1 : Int)) ∧ ((nw = 21 ∨ nw = 35) ∧ (EL c nw P) ∧ (GV P) ∧ (-2147483648 ≤ ((G.2.2 (((ii + 1 : Nat) : Int).toNat)).toInt) ∧ ((G.2.2 (((ii + 1 : Nat) : Int).toNat)).toInt) < 2147483648) ∧ ((0 ≤ ((ii + 1 : Nat) : Int)) ∧ (((ii + 1 : Nat) : Int) < (G.2.1 : Int)) ∧ ((ML c P) ∧ (GV P) ∧ (GC P) ∧ (hOr P) ∧ (-2147483648 ≤ ((G.2.2 (((ii + 1 : Nat) : Int).toNat)).toInt) ∧ ((G.2.2 (((ii + 1 : Nat) : Int).toNat)).toInt) < 2147483648) ∧ (∀ c_1 : Nat → Nat → Int, SC c c_1 → SW G (j + 40) mL_law 2308 [some (vf 0), some (vr (0)), some (vr (49)), some (vi (((ii : Nat) : Int)))] [] (S nw nx g, 78 + gn, c_1) BL post))))) :
    SW G (j + 40) mL_law 686 [some (vf 0), some (vr (0)), some (vr (49)), some (vi (((ii : Nat) : Int)))] [] (S nw nx g, 78 + gn, c) BL post := by
  refine sw_aload_n (dL_law_6.at 14 rfl) rfl rfl ?_
  refine sw_aload_nf (dL_law_6.at 15 rfl) rfl rfl ?_
  refine sw_iload_n (dL_law_6.at 16 rfl) rfl rfl ?_
  refine sw_iconst (dL_law_6.at 17 rfl) ?_
  refine sw_iadd (dL_law_6.at 18 rfl) ?_
  refine sw_topI (y := ((ii + 1 : Nat) : Int)) (by first | rfl | (congr 1)) ?_
  refine sw_sld (dL_law_6.at 19 rfl) hG hv.1 hv.2.1 ?_
  replace hv := hv.2.2
  refine sw_callV (B' := BL) (As := [vi ((G.2.2 (((ii + 1 : Nat) : Int).toNat)).toInt)]) (mc := 0) (ms := 0) (dL_law_6.at 20 rfl) lk_L_71 (S_lt 0 (by decide)) (S_0 nw nx g) rfl rfl (Nat.le_of_ble_eq_true rfl) rfl hB1 hB2 ?_
  refine c_X8_order (x := ((G.2.2 (((ii + 1 : Nat) : Int).toNat)).toInt)) (P := P) (j := j + 37) hv.1 hv.2.1 hv.2.2.1 hv.2.2.2.1 ?_
  replace hv := hv.2.2.2.2
  refine sw_aload_n (dL_law_6.at 21 rfl) rfl rfl ?_
  refine sw_aload_nf (dL_law_6.at 22 rfl) rfl rfl ?_
  refine sw_iload_n (dL_law_6.at 23 rfl) rfl rfl ?_
  refine sw_iconst (dL_law_6.at 24 rfl) ?_
  refine sw_iadd (dL_law_6.at 25 rfl) ?_
  refine sw_topI (y := ((ii + 1 : Nat) : Int)) (by first | rfl | (congr 1)) ?_
  refine sw_sld (dL_law_6.at 26 rfl) hG hv.1 hv.2.1 ?_
  replace hv := hv.2.2
  refine sw_callV (B' := BL) (As := [vi ((G.2.2 (((ii + 1 : Nat) : Int).toNat)).toInt)]) (mc := 0) (ms := 0) (dL_law_6.at 27 rfl) lk_L_74 (S_lt 49 (by decide)) (S_49 nw nx g) rfl rfl (Nat.le_of_ble_eq_true rfl) rfl hB1 hB2 ?_
  refine c_X9_order (x := ((G.2.2 (((ii + 1 : Nat) : Int).toNat)).toInt)) (P := P) (j := j + 36) hv.1 hv.2.1 hv.2.2.1 hv.2.2.2.1 hv.2.2.2.2.1 (fun c_1 h_1 => ?_)
  replace hv := hv.2.2.2.2.2 c_1 h_1
  refine sw_icmp_same (tgt := 2308) (dL_law_6.at 28 rfl) (by decide) ?_
  exact hv

theorem cs_order {G : GG} {j nw nx gn : Nat} {g : Nat → Sh} {c : Nat → Nat → Int} {post : Option AV → AM → Prop} {BL : BB} {P : GD} {T : PT} {ln : Nat} {bo : Nat → Nat} {n : Nat} {nb : Nat → Nat} {MT : Nat} {MA : Nat} {ii : Nat} (hG : G.2.1 < 2147483648) (hB1 : BL.1 ≤ BL.2.2.1) (hB2 : BL.2.1 ≤ BL.2.2.2) (hii : ii + 6 ≤ G.2.1) (hv : INV c nw nx P T ln bo n nb MT MA) (K : ∀ c2 : Nat → Nat → Int, INV c2 nw nx P T ln bo n nb MT MA → SW G (j + 40) mL_law 2308 [some (vf 0), some (vr (0)), some (vr (49)), some (vi (((ii : Nat) : Int)))] [] (S nw nx g, 78 + gn, c2) BL post) : SW G (j + 40) mL_law 686 [some (vf 0), some (vr (0)), some (vr (49)), some (vi (((ii : Nat) : Int)))] [] (S nw nx g, 78 + gn, c) BL post := by
  have hv0 := hv
  obtain ⟨hIT, hIP, hIR, hIE, ⟨hwx, hSP, ⟨⟨hV, hC, hDn, hSi⟩, ⟨hOr, hMi, hSp, hBr, hBt⟩, ⟨hLa, hGP, hP0, hHT⟩, hMv⟩, hbo, hbl, hE, hM, hln⟩, ⟨hPR, hCR, hRR⟩, hIM⟩ := hv
  have hIM0 := hIM
  obtain ⟨⟨hMT60, hMA30, hMA0, hMf, hMs⟩, ⟨hM1, hM2, hM3, hM4⟩, hM5, hM6⟩ := hIM
  have hnw : nw = 21 ∨ nw = 35 := by omega
  have hRb := hC.1.1
  have hLn := hC.1.2
  have hLn2 : ∀ s, s < gR P → s + 1 < gN P := hC.1.2
  refine g_law_order (P := P) hG hB1 hB2 ?_
  refine ⟨?_, ?_, ⟨?_, ?_, ?_, ?_, ⟨?_, ?_, ⟨?_, ?_, ?_, ?_, ?_, fun c_1 h_1 => ?_⟩⟩⟩⟩
  all_goals first | assumption | omega | exact i32rng _ | exact K _ (INV_SC hv0 h_1)

set_option maxHeartbeats 2000000 in
set_option maxRecDepth 20000 in
theorem g_law_descents {G : GG} {j nw nx gn : Nat} {g : Nat → Sh} {c : Nat → Nat → Int} {post : Option AV → AM → Prop} {BL : BB} {P : GD} {ii : Nat} (hG : G.2.1 < 2147483648) (hB1 : BL.1 ≤ BL.2.2.1) (hB2 : BL.2.1 ≤ BL.2.2.2)  (hv : (0 ≤ ((ii + 1 : Nat) : Int)) ∧ (((ii + 1 : Nat) : Int) < (G.2.1 : Int)) ∧ ((0 ≤ ((ii + 2 : Nat) : Int)) ∧ (((ii + 2 : Nat) : Int) < (G.2.1 : Int)) ∧ ((nw = 21 ∨ nw = 35) ∧ (EL c nw P) ∧ (GV P) ∧ (-2147483648 ≤ ((G.2.2 (((ii + 1 : Nat) : Int).toNat)).toInt) ∧ ((G.2.2 (((ii + 1 : Nat) : Int).toNat)).toInt) < 2147483648) ∧ (-2147483648 ≤ ((G.2.2 (((ii + 2 : Nat) : Int).toNat)).toInt) ∧ ((G.2.2 (((ii + 2 : Nat) : Int).toNat)).toInt) < 2147483648) ∧ ((0 ≤ ((ii + 1 : Nat) : Int)) ∧ (((ii + 1 : Nat) : Int) < (G.2.1 : Int)) ∧ ((0 ≤ ((ii + 2 : Nat) : Int)) ∧ (((ii + 2 : Nat) : Int) < (G.2.1 : Int)) ∧ ((ML c P) ∧ (GV P) ∧ (GC P) ∧ (-2147483648 ≤ ((G.2.2 (((ii + 1 : Nat) : Int).toNat)).toInt) ∧ ((G.2.2 (((ii + 1 : Nat) : Int).toNat)).toInt) < 2147483648) ∧ (-2147483648 ≤ ((G.2.2 (((ii + 2 : Nat) : Int).toNat)).toInt) ∧ ((G.2.2 (((ii + 2 : Nat) : Int).toNat)).toInt) < 2147483648) ∧ (∀ c_1 : Nat → Nat → Int, SC c c_1 → SW G (j + 40) mL_law 2308 [some (vf 0), some (vr (0)), some (vr (49)), some (vi (((ii : Nat) : Int)))] [] (S nw nx g, 78 + gn, c_1) BL post))))))) :
    SW G (j + 40) mL_law 709 [some (vf 0), some (vr (0)), some (vr (49)), some (vi (((ii : Nat) : Int)))] [] (S nw nx g, 78 + gn, c) BL post := by
  refine sw_aload_n (dL_law_6.at 31 rfl) rfl rfl ?_
  refine sw_aload_nf (dL_law_6.at 32 rfl) rfl rfl ?_
  refine sw_iload_n (dL_law_6.at 33 rfl) rfl rfl ?_
  refine sw_iconst (dL_law_6.at 34 rfl) ?_
  refine sw_iadd (dL_law_6.at 35 rfl) ?_
  refine sw_topI (y := ((ii + 1 : Nat) : Int)) (by first | rfl | (congr 1)) ?_
  refine sw_sld (dL_law_6.at 36 rfl) hG hv.1 hv.2.1 ?_
  replace hv := hv.2.2
  refine sw_aload_nf (dL_law_6.at 37 rfl) rfl rfl ?_
  refine sw_iload_n (dL_law_6.at 38 rfl) rfl rfl ?_
  refine sw_iconst (dL_law_6.at 39 rfl) ?_
  refine sw_iadd (dL_law_6.at 40 rfl) ?_
  refine sw_topI (y := ((ii + 2 : Nat) : Int)) (by first | rfl | (congr 1)) ?_
  refine sw_sld (dL_law_6.at 41 rfl) hG hv.1 hv.2.1 ?_
  replace hv := hv.2.2
  refine sw_callV (B' := BL) (As := [vi ((G.2.2 (((ii + 1 : Nat) : Int).toNat)).toInt), vi ((G.2.2 (((ii + 2 : Nat) : Int).toNat)).toInt)]) (mc := 0) (ms := 0) (dL_law_6.at 42 rfl) lk_L_75 (S_lt 0 (by decide)) (S_0 nw nx g) rfl rfl (Nat.le_of_ble_eq_true rfl) rfl hB1 hB2 ?_
  refine c_X8_descents (x := ((G.2.2 (((ii + 1 : Nat) : Int).toNat)).toInt)) (sd := ((G.2.2 (((ii + 2 : Nat) : Int).toNat)).toInt)) (P := P) (j := j + 38) hv.1 hv.2.1 hv.2.2.1 hv.2.2.2.1 hv.2.2.2.2.1 ?_
  replace hv := hv.2.2.2.2.2
  refine sw_aload_n (dL_law_6.at 43 rfl) rfl rfl ?_
  refine sw_aload_nf (dL_law_6.at 44 rfl) rfl rfl ?_
  refine sw_iload_n (dL_law_6.at 45 rfl) rfl rfl ?_
  refine sw_iconst (dL_law_6.at 46 rfl) ?_
  refine sw_iadd (dL_law_6.at 47 rfl) ?_
  refine sw_topI (y := ((ii + 1 : Nat) : Int)) (by first | rfl | (congr 1)) ?_
  refine sw_sld (dL_law_6.at 48 rfl) hG hv.1 hv.2.1 ?_
  replace hv := hv.2.2
  refine sw_aload_nf (dL_law_6.at 49 rfl) rfl rfl ?_
  refine sw_iload_n (dL_law_7.at 0 rfl) rfl rfl ?_
  refine sw_iconst (dL_law_7.at 1 rfl) ?_
  refine sw_iadd (dL_law_7.at 2 rfl) ?_
  refine sw_topI (y := ((ii + 2 : Nat) : Int)) (by first | rfl | (congr 1)) ?_
  refine sw_sld (dL_law_7.at 3 rfl) hG hv.1 hv.2.1 ?_
  replace hv := hv.2.2
  refine sw_callV (B' := BL) (As := [vi ((G.2.2 (((ii + 1 : Nat) : Int).toNat)).toInt), vi ((G.2.2 (((ii + 2 : Nat) : Int).toNat)).toInt)]) (mc := 0) (ms := 0) (dL_law_7.at 4 rfl) lk_L_78 (S_lt 49 (by decide)) (S_49 nw nx g) rfl rfl (Nat.le_of_ble_eq_true rfl) rfl hB1 hB2 ?_
  refine c_X9_descents (x := ((G.2.2 (((ii + 1 : Nat) : Int).toNat)).toInt)) (sd := ((G.2.2 (((ii + 2 : Nat) : Int).toNat)).toInt)) (P := P) (j := j + 37) hv.1 hv.2.1 hv.2.2.1 hv.2.2.2.1 hv.2.2.2.2.1 (fun c_1 h_1 => ?_)
  replace hv := hv.2.2.2.2.2 c_1 h_1
  refine sw_icmp_same (tgt := 2308) (dL_law_7.at 5 rfl) (by decide) ?_
  exact hv

theorem cs_descents {G : GG} {j nw nx gn : Nat} {g : Nat → Sh} {c : Nat → Nat → Int} {post : Option AV → AM → Prop} {BL : BB} {P : GD} {T : PT} {ln : Nat} {bo : Nat → Nat} {n : Nat} {nb : Nat → Nat} {MT : Nat} {MA : Nat} {ii : Nat} (hG : G.2.1 < 2147483648) (hB1 : BL.1 ≤ BL.2.2.1) (hB2 : BL.2.1 ≤ BL.2.2.2) (hii : ii + 6 ≤ G.2.1) (hv : INV c nw nx P T ln bo n nb MT MA) (K : ∀ c2 : Nat → Nat → Int, INV c2 nw nx P T ln bo n nb MT MA → SW G (j + 40) mL_law 2308 [some (vf 0), some (vr (0)), some (vr (49)), some (vi (((ii : Nat) : Int)))] [] (S nw nx g, 78 + gn, c2) BL post) : SW G (j + 40) mL_law 709 [some (vf 0), some (vr (0)), some (vr (49)), some (vi (((ii : Nat) : Int)))] [] (S nw nx g, 78 + gn, c) BL post := by
  have hv0 := hv
  obtain ⟨hIT, hIP, hIR, hIE, ⟨hwx, hSP, ⟨⟨hV, hC, hDn, hSi⟩, ⟨hOr, hMi, hSp, hBr, hBt⟩, ⟨hLa, hGP, hP0, hHT⟩, hMv⟩, hbo, hbl, hE, hM, hln⟩, ⟨hPR, hCR, hRR⟩, hIM⟩ := hv
  have hIM0 := hIM
  obtain ⟨⟨hMT60, hMA30, hMA0, hMf, hMs⟩, ⟨hM1, hM2, hM3, hM4⟩, hM5, hM6⟩ := hIM
  have hnw : nw = 21 ∨ nw = 35 := by omega
  have hRb := hC.1.1
  have hLn := hC.1.2
  have hLn2 : ∀ s, s < gR P → s + 1 < gN P := hC.1.2
  refine g_law_descents (P := P) hG hB1 hB2 ?_
  refine ⟨?_, ?_, ⟨?_, ?_, ⟨?_, ?_, ?_, ?_, ?_, ⟨?_, ?_, ⟨?_, ?_, ⟨?_, ?_, ?_, ?_, ?_, fun c_1 h_1 => ?_⟩⟩⟩⟩⟩⟩
  all_goals first | assumption | omega | exact i32rng _ | exact K _ (INV_SC hv0 h_1)

set_option maxHeartbeats 2000000 in
set_option maxRecDepth 20000 in
theorem g_law_reflection {G : GG} {j nw nx gn : Nat} {g : Nat → Sh} {c : Nat → Nat → Int} {post : Option AV → AM → Prop} {BL : BB} {P : GD} {ii : Nat} (hG : G.2.1 < 2147483648) (hB1 : BL.1 ≤ BL.2.2.1) (hB2 : BL.2.1 ≤ BL.2.2.2)  (hv : (0 ≤ ((ii + 1 : Nat) : Int)) ∧ (((ii + 1 : Nat) : Int) < (G.2.1 : Int)) ∧ ((nw = 21 ∨ nw = 35) ∧ (EL c nw P) ∧ (GV P) ∧ (-2147483648 ≤ ((G.2.2 (((ii + 1 : Nat) : Int).toNat)).toInt) ∧ ((G.2.2 (((ii + 1 : Nat) : Int).toNat)).toInt) < 2147483648) ∧ ((0 ≤ ((ii + 1 : Nat) : Int)) ∧ (((ii + 1 : Nat) : Int) < (G.2.1 : Int)) ∧ ((ML c P) ∧ (GV P) ∧ (-2147483648 ≤ ((G.2.2 (((ii + 1 : Nat) : Int).toNat)).toInt) ∧ ((G.2.2 (((ii + 1 : Nat) : Int).toNat)).toInt) < 2147483648) ∧ (∀ c_1 : Nat → Nat → Int, SC c c_1 → SW G (j + 40) mL_law 2308 [some (vf 0), some (vr (0)), some (vr (49)), some (vi (((ii : Nat) : Int)))] [] (S nw nx g, 78 + gn, c_1) BL post))))) :
    SW G (j + 40) mL_law 742 [some (vf 0), some (vr (0)), some (vr (49)), some (vi (((ii : Nat) : Int)))] [] (S nw nx g, 78 + gn, c) BL post := by
  refine sw_aload_n (dL_law_7.at 8 rfl) rfl rfl ?_
  refine sw_aload_nf (dL_law_7.at 9 rfl) rfl rfl ?_
  refine sw_iload_n (dL_law_7.at 10 rfl) rfl rfl ?_
  refine sw_iconst (dL_law_7.at 11 rfl) ?_
  refine sw_iadd (dL_law_7.at 12 rfl) ?_
  refine sw_topI (y := ((ii + 1 : Nat) : Int)) (by first | rfl | (congr 1)) ?_
  refine sw_sld (dL_law_7.at 13 rfl) hG hv.1 hv.2.1 ?_
  replace hv := hv.2.2
  refine sw_callV (B' := BL) (As := [vi ((G.2.2 (((ii + 1 : Nat) : Int).toNat)).toInt)]) (mc := 0) (ms := 0) (dL_law_7.at 14 rfl) lk_L_79 (S_lt 0 (by decide)) (S_0 nw nx g) rfl rfl (Nat.le_of_ble_eq_true rfl) rfl hB1 hB2 ?_
  refine c_X8_reflection (i := ((G.2.2 (((ii + 1 : Nat) : Int).toNat)).toInt)) (P := P) (j := j + 39) hv.1 hv.2.1 hv.2.2.1 hv.2.2.2.1 ?_
  replace hv := hv.2.2.2.2
  refine sw_aload_n (dL_law_7.at 15 rfl) rfl rfl ?_
  refine sw_aload_nf (dL_law_7.at 16 rfl) rfl rfl ?_
  refine sw_iload_n (dL_law_7.at 17 rfl) rfl rfl ?_
  refine sw_iconst (dL_law_7.at 18 rfl) ?_
  refine sw_iadd (dL_law_7.at 19 rfl) ?_
  refine sw_topI (y := ((ii + 1 : Nat) : Int)) (by first | rfl | (congr 1)) ?_
  refine sw_sld (dL_law_7.at 20 rfl) hG hv.1 hv.2.1 ?_
  replace hv := hv.2.2
  refine sw_callV (B' := BL) (As := [vi ((G.2.2 (((ii + 1 : Nat) : Int).toNat)).toInt)]) (mc := 0) (ms := 0) (dL_law_7.at 21 rfl) lk_L_82 (S_lt 49 (by decide)) (S_49 nw nx g) rfl rfl (Nat.le_of_ble_eq_true rfl) rfl hB1 hB2 ?_
  refine c_X9_reflection (i := ((G.2.2 (((ii + 1 : Nat) : Int).toNat)).toInt)) (P := P) (j := j + 38) hv.1 hv.2.1 hv.2.2.1 (fun c_1 h_1 => ?_)
  replace hv := hv.2.2.2 c_1 h_1
  refine sw_icmp_same (tgt := 2308) (dL_law_7.at 22 rfl) (by decide) ?_
  exact hv

theorem cs_reflection {G : GG} {j nw nx gn : Nat} {g : Nat → Sh} {c : Nat → Nat → Int} {post : Option AV → AM → Prop} {BL : BB} {P : GD} {T : PT} {ln : Nat} {bo : Nat → Nat} {n : Nat} {nb : Nat → Nat} {MT : Nat} {MA : Nat} {ii : Nat} (hG : G.2.1 < 2147483648) (hB1 : BL.1 ≤ BL.2.2.1) (hB2 : BL.2.1 ≤ BL.2.2.2) (hii : ii + 6 ≤ G.2.1) (hv : INV c nw nx P T ln bo n nb MT MA) (K : ∀ c2 : Nat → Nat → Int, INV c2 nw nx P T ln bo n nb MT MA → SW G (j + 40) mL_law 2308 [some (vf 0), some (vr (0)), some (vr (49)), some (vi (((ii : Nat) : Int)))] [] (S nw nx g, 78 + gn, c2) BL post) : SW G (j + 40) mL_law 742 [some (vf 0), some (vr (0)), some (vr (49)), some (vi (((ii : Nat) : Int)))] [] (S nw nx g, 78 + gn, c) BL post := by
  have hv0 := hv
  obtain ⟨hIT, hIP, hIR, hIE, ⟨hwx, hSP, ⟨⟨hV, hC, hDn, hSi⟩, ⟨hOr, hMi, hSp, hBr, hBt⟩, ⟨hLa, hGP, hP0, hHT⟩, hMv⟩, hbo, hbl, hE, hM, hln⟩, ⟨hPR, hCR, hRR⟩, hIM⟩ := hv
  have hIM0 := hIM
  obtain ⟨⟨hMT60, hMA30, hMA0, hMf, hMs⟩, ⟨hM1, hM2, hM3, hM4⟩, hM5, hM6⟩ := hIM
  have hnw : nw = 21 ∨ nw = 35 := by omega
  have hRb := hC.1.1
  have hLn := hC.1.2
  have hLn2 : ∀ s, s < gR P → s + 1 < gN P := hC.1.2
  refine g_law_reflection (P := P) hG hB1 hB2 ?_
  refine ⟨?_, ?_, ⟨?_, ?_, ?_, ?_, ⟨?_, ?_, ⟨?_, ?_, ?_, fun c_1 h_1 => ?_⟩⟩⟩⟩
  all_goals first | assumption | omega | exact i32rng _ | exact K _ (INV_SC hv0 h_1)

set_option maxHeartbeats 2000000 in
set_option maxRecDepth 20000 in
theorem g_law_below {G : GG} {j nw nx gn : Nat} {g : Nat → Sh} {c : Nat → Nat → Int} {post : Option AV → AM → Prop} {BL : BB} {P : GD} {T : PT} {ii : Nat} (hG : G.2.1 < 2147483648) (hB1 : BL.1 ≤ BL.2.2.1) (hB2 : BL.2.1 ≤ BL.2.2.2)  (hv : (0 ≤ ((ii + 1 : Nat) : Int)) ∧ (((ii + 1 : Nat) : Int) < (G.2.1 : Int)) ∧ ((0 ≤ ((ii + 2 : Nat) : Int)) ∧ (((ii + 2 : Nat) : Int) < (G.2.1 : Int)) ∧ ((nw = 21 ∨ nw = 35) ∧ (EL c nw P) ∧ (GV P) ∧ (-2147483648 ≤ ((G.2.2 (((ii + 1 : Nat) : Int).toNat)).toInt) ∧ ((G.2.2 (((ii + 1 : Nat) : Int).toNat)).toInt) < 2147483648) ∧ (-2147483648 ≤ ((G.2.2 (((ii + 2 : Nat) : Int).toNat)).toInt) ∧ ((G.2.2 (((ii + 2 : Nat) : Int).toNat)).toInt) < 2147483648) ∧ ((0 ≤ ((ii + 1 : Nat) : Int)) ∧ (((ii + 1 : Nat) : Int) < (G.2.1 : Int)) ∧ ((0 ≤ ((ii + 2 : Nat) : Int)) ∧ (((ii + 2 : Nat) : Int) < (G.2.1 : Int)) ∧ ((ML c P) ∧ (GV P) ∧ (GC P) ∧ (GP P T) ∧ (RR P T c) ∧ (-2147483648 ≤ ((G.2.2 (((ii + 1 : Nat) : Int).toNat)).toInt) ∧ ((G.2.2 (((ii + 1 : Nat) : Int).toNat)).toInt) < 2147483648) ∧ (-2147483648 ≤ ((G.2.2 (((ii + 2 : Nat) : Int).toNat)).toInt) ∧ ((G.2.2 (((ii + 2 : Nat) : Int).toNat)).toInt) < 2147483648) ∧ (∀ c_1 : Nat → Nat → Int, (SD c c_1 ∧ RR P T c_1) → SW G (j + 40) mL_law 2308 [some (vf 0), some (vr (0)), some (vr (49)), some (vi (((ii : Nat) : Int)))] [] (S nw nx g, 78 + gn, c_1) BL post))))))) :
    SW G (j + 40) mL_law 765 [some (vf 0), some (vr (0)), some (vr (49)), some (vi (((ii : Nat) : Int)))] [] (S nw nx g, 78 + gn, c) BL post := by
  refine sw_aload_n (dL_law_7.at 25 rfl) rfl rfl ?_
  refine sw_aload_nf (dL_law_7.at 26 rfl) rfl rfl ?_
  refine sw_iload_n (dL_law_7.at 27 rfl) rfl rfl ?_
  refine sw_iconst (dL_law_7.at 28 rfl) ?_
  refine sw_iadd (dL_law_7.at 29 rfl) ?_
  refine sw_topI (y := ((ii + 1 : Nat) : Int)) (by first | rfl | (congr 1)) ?_
  refine sw_sld (dL_law_7.at 30 rfl) hG hv.1 hv.2.1 ?_
  replace hv := hv.2.2
  refine sw_aload_nf (dL_law_7.at 31 rfl) rfl rfl ?_
  refine sw_iload_n (dL_law_7.at 32 rfl) rfl rfl ?_
  refine sw_iconst (dL_law_7.at 33 rfl) ?_
  refine sw_iadd (dL_law_7.at 34 rfl) ?_
  refine sw_topI (y := ((ii + 2 : Nat) : Int)) (by first | rfl | (congr 1)) ?_
  refine sw_sld (dL_law_7.at 35 rfl) hG hv.1 hv.2.1 ?_
  replace hv := hv.2.2
  refine sw_callV (B' := BL) (As := [vi ((G.2.2 (((ii + 1 : Nat) : Int).toNat)).toInt), vi ((G.2.2 (((ii + 2 : Nat) : Int).toNat)).toInt)]) (mc := 0) (ms := 0) (dL_law_7.at 36 rfl) lk_L_83 (S_lt 0 (by decide)) (S_0 nw nx g) rfl rfl (Nat.le_of_ble_eq_true rfl) rfl hB1 hB2 ?_
  refine c_X8_below (x := ((G.2.2 (((ii + 1 : Nat) : Int).toNat)).toInt)) (y := ((G.2.2 (((ii + 2 : Nat) : Int).toNat)).toInt)) (P := P) (j := j + 37) hv.1 hv.2.1 hv.2.2.1 hv.2.2.2.1 hv.2.2.2.2.1 ?_
  replace hv := hv.2.2.2.2.2
  refine sw_aload_n (dL_law_7.at 37 rfl) rfl rfl ?_
  refine sw_aload_nf (dL_law_7.at 38 rfl) rfl rfl ?_
  refine sw_iload_n (dL_law_7.at 39 rfl) rfl rfl ?_
  refine sw_iconst (dL_law_7.at 40 rfl) ?_
  refine sw_iadd (dL_law_7.at 41 rfl) ?_
  refine sw_topI (y := ((ii + 1 : Nat) : Int)) (by first | rfl | (congr 1)) ?_
  refine sw_sld (dL_law_7.at 42 rfl) hG hv.1 hv.2.1 ?_
  replace hv := hv.2.2
  refine sw_aload_nf (dL_law_7.at 43 rfl) rfl rfl ?_
  refine sw_iload_n (dL_law_7.at 44 rfl) rfl rfl ?_
  refine sw_iconst (dL_law_7.at 45 rfl) ?_
  refine sw_iadd (dL_law_7.at 46 rfl) ?_
  refine sw_topI (y := ((ii + 2 : Nat) : Int)) (by first | rfl | (congr 1)) ?_
  refine sw_sld (dL_law_7.at 47 rfl) hG hv.1 hv.2.1 ?_
  replace hv := hv.2.2
  refine sw_callV (B' := BL) (As := [vi ((G.2.2 (((ii + 1 : Nat) : Int).toNat)).toInt), vi ((G.2.2 (((ii + 2 : Nat) : Int).toNat)).toInt)]) (mc := 0) (ms := 0) (dL_law_7.at 48 rfl) lk_L_86 (S_lt 49 (by decide)) (S_49 nw nx g) rfl rfl (Nat.le_of_ble_eq_true rfl) rfl hB1 hB2 ?_
  refine c_X9_below (x := ((G.2.2 (((ii + 1 : Nat) : Int).toNat)).toInt)) (y := ((G.2.2 (((ii + 2 : Nat) : Int).toNat)).toInt)) (P := P) (T := T) (j := j + 34) hv.1 hv.2.1 hv.2.2.1 hv.2.2.2.1 hv.2.2.2.2.1 hv.2.2.2.2.2.1 hv.2.2.2.2.2.2.1 (fun c_1 h_1 => ?_)
  replace hv := hv.2.2.2.2.2.2.2 c_1 h_1
  refine sw_icmp_same (tgt := 2308) (dL_law_7.at 49 rfl) (by decide) ?_
  exact hv

theorem cs_below {G : GG} {j nw nx gn : Nat} {g : Nat → Sh} {c : Nat → Nat → Int} {post : Option AV → AM → Prop} {BL : BB} {P : GD} {T : PT} {ln : Nat} {bo : Nat → Nat} {n : Nat} {nb : Nat → Nat} {MT : Nat} {MA : Nat} {ii : Nat} (hG : G.2.1 < 2147483648) (hB1 : BL.1 ≤ BL.2.2.1) (hB2 : BL.2.1 ≤ BL.2.2.2) (hii : ii + 6 ≤ G.2.1) (hv : INV c nw nx P T ln bo n nb MT MA) (K : ∀ c2 : Nat → Nat → Int, INV c2 nw nx P T ln bo n nb MT MA → SW G (j + 40) mL_law 2308 [some (vf 0), some (vr (0)), some (vr (49)), some (vi (((ii : Nat) : Int)))] [] (S nw nx g, 78 + gn, c2) BL post) : SW G (j + 40) mL_law 765 [some (vf 0), some (vr (0)), some (vr (49)), some (vi (((ii : Nat) : Int)))] [] (S nw nx g, 78 + gn, c) BL post := by
  have hv0 := hv
  obtain ⟨hIT, hIP, hIR, hIE, ⟨hwx, hSP, ⟨⟨hV, hC, hDn, hSi⟩, ⟨hOr, hMi, hSp, hBr, hBt⟩, ⟨hLa, hGP, hP0, hHT⟩, hMv⟩, hbo, hbl, hE, hM, hln⟩, ⟨hPR, hCR, hRR⟩, hIM⟩ := hv
  have hIM0 := hIM
  obtain ⟨⟨hMT60, hMA30, hMA0, hMf, hMs⟩, ⟨hM1, hM2, hM3, hM4⟩, hM5, hM6⟩ := hIM
  have hnw : nw = 21 ∨ nw = 35 := by omega
  have hRb := hC.1.1
  have hLn := hC.1.2
  have hLn2 : ∀ s, s < gR P → s + 1 < gN P := hC.1.2
  refine g_law_below (P := P) (T := T) hG hB1 hB2 ?_
  refine ⟨?_, ?_, ⟨?_, ?_, ⟨?_, ?_, ?_, ?_, ?_, ⟨?_, ?_, ⟨?_, ?_, ⟨?_, ?_, ?_, ?_, ?_, ?_, ?_, fun c_1 h_1 => ?_⟩⟩⟩⟩⟩⟩
  all_goals first | assumption | omega | exact i32rng _ | exact K _ (INV_SD hv0 h_1.1 h_1.2)

set_option maxHeartbeats 2000000 in
set_option maxRecDepth 20000 in
theorem g_law_covers {G : GG} {j nw nx gn : Nat} {g : Nat → Sh} {c : Nat → Nat → Int} {post : Option AV → AM → Prop} {BL : BB} {P : GD} {T : PT} {ii : Nat} (hG : G.2.1 < 2147483648) (hB1 : BL.1 ≤ BL.2.2.1) (hB2 : BL.2.1 ≤ BL.2.2.2)  (hv : (0 ≤ ((ii + 1 : Nat) : Int)) ∧ (((ii + 1 : Nat) : Int) < (G.2.1 : Int)) ∧ ((0 ≤ ((ii + 2 : Nat) : Int)) ∧ (((ii + 2 : Nat) : Int) < (G.2.1 : Int)) ∧ ((nw = 21 ∨ nw = 35) ∧ (EL c nw P) ∧ (GV P) ∧ (-2147483648 ≤ ((G.2.2 (((ii + 1 : Nat) : Int).toNat)).toInt) ∧ ((G.2.2 (((ii + 1 : Nat) : Int).toNat)).toInt) < 2147483648) ∧ (-2147483648 ≤ ((G.2.2 (((ii + 2 : Nat) : Int).toNat)).toInt) ∧ ((G.2.2 (((ii + 2 : Nat) : Int).toNat)).toInt) < 2147483648) ∧ ((0 ≤ ((ii + 1 : Nat) : Int)) ∧ (((ii + 1 : Nat) : Int) < (G.2.1 : Int)) ∧ ((0 ≤ ((ii + 2 : Nat) : Int)) ∧ (((ii + 2 : Nat) : Int) < (G.2.1 : Int)) ∧ ((ML c P) ∧ (GV P) ∧ (GC P) ∧ (GP P T) ∧ (RR P T c) ∧ (-2147483648 ≤ ((G.2.2 (((ii + 1 : Nat) : Int).toNat)).toInt) ∧ ((G.2.2 (((ii + 1 : Nat) : Int).toNat)).toInt) < 2147483648) ∧ (-2147483648 ≤ ((G.2.2 (((ii + 2 : Nat) : Int).toNat)).toInt) ∧ ((G.2.2 (((ii + 2 : Nat) : Int).toNat)).toInt) < 2147483648) ∧ (∀ c_1 : Nat → Nat → Int, (SD c c_1 ∧ RR P T c_1) → SW G (j + 40) mL_law 2308 [some (vf 0), some (vr (0)), some (vr (49)), some (vi (((ii : Nat) : Int)))] [] (S nw nx g, 78 + gn, c_1) BL post))))))) :
    SW G (j + 40) mL_law 798 [some (vf 0), some (vr (0)), some (vr (49)), some (vi (((ii : Nat) : Int)))] [] (S nw nx g, 78 + gn, c) BL post := by
  refine sw_aload_n (dL_law_8.at 2 rfl) rfl rfl ?_
  refine sw_aload_nf (dL_law_8.at 3 rfl) rfl rfl ?_
  refine sw_iload_n (dL_law_8.at 4 rfl) rfl rfl ?_
  refine sw_iconst (dL_law_8.at 5 rfl) ?_
  refine sw_iadd (dL_law_8.at 6 rfl) ?_
  refine sw_topI (y := ((ii + 1 : Nat) : Int)) (by first | rfl | (congr 1)) ?_
  refine sw_sld (dL_law_8.at 7 rfl) hG hv.1 hv.2.1 ?_
  replace hv := hv.2.2
  refine sw_aload_nf (dL_law_8.at 8 rfl) rfl rfl ?_
  refine sw_iload_n (dL_law_8.at 9 rfl) rfl rfl ?_
  refine sw_iconst (dL_law_8.at 10 rfl) ?_
  refine sw_iadd (dL_law_8.at 11 rfl) ?_
  refine sw_topI (y := ((ii + 2 : Nat) : Int)) (by first | rfl | (congr 1)) ?_
  refine sw_sld (dL_law_8.at 12 rfl) hG hv.1 hv.2.1 ?_
  replace hv := hv.2.2
  refine sw_callV (B' := BL) (As := [vi ((G.2.2 (((ii + 1 : Nat) : Int).toNat)).toInt), vi ((G.2.2 (((ii + 2 : Nat) : Int).toNat)).toInt)]) (mc := 0) (ms := 0) (dL_law_8.at 13 rfl) lk_L_87 (S_lt 0 (by decide)) (S_0 nw nx g) rfl rfl (Nat.le_of_ble_eq_true rfl) rfl hB1 hB2 ?_
  refine c_X8_covers (x := ((G.2.2 (((ii + 1 : Nat) : Int).toNat)).toInt)) (sd := ((G.2.2 (((ii + 2 : Nat) : Int).toNat)).toInt)) (P := P) (j := j + 36) hv.1 hv.2.1 hv.2.2.1 hv.2.2.2.1 hv.2.2.2.2.1 ?_
  replace hv := hv.2.2.2.2.2
  refine sw_aload_n (dL_law_8.at 14 rfl) rfl rfl ?_
  refine sw_aload_nf (dL_law_8.at 15 rfl) rfl rfl ?_
  refine sw_iload_n (dL_law_8.at 16 rfl) rfl rfl ?_
  refine sw_iconst (dL_law_8.at 17 rfl) ?_
  refine sw_iadd (dL_law_8.at 18 rfl) ?_
  refine sw_topI (y := ((ii + 1 : Nat) : Int)) (by first | rfl | (congr 1)) ?_
  refine sw_sld (dL_law_8.at 19 rfl) hG hv.1 hv.2.1 ?_
  replace hv := hv.2.2
  refine sw_aload_nf (dL_law_8.at 20 rfl) rfl rfl ?_
  refine sw_iload_n (dL_law_8.at 21 rfl) rfl rfl ?_
  refine sw_iconst (dL_law_8.at 22 rfl) ?_
  refine sw_iadd (dL_law_8.at 23 rfl) ?_
  refine sw_topI (y := ((ii + 2 : Nat) : Int)) (by first | rfl | (congr 1)) ?_
  refine sw_sld (dL_law_8.at 24 rfl) hG hv.1 hv.2.1 ?_
  replace hv := hv.2.2
  refine sw_callV (B' := BL) (As := [vi ((G.2.2 (((ii + 1 : Nat) : Int).toNat)).toInt), vi ((G.2.2 (((ii + 2 : Nat) : Int).toNat)).toInt)]) (mc := 0) (ms := 0) (dL_law_8.at 25 rfl) lk_L_91 (S_lt 49 (by decide)) (S_49 nw nx g) rfl rfl (Nat.le_of_ble_eq_true rfl) rfl hB1 hB2 ?_
  refine c_X9_covers (x := ((G.2.2 (((ii + 1 : Nat) : Int).toNat)).toInt)) (sd := ((G.2.2 (((ii + 2 : Nat) : Int).toNat)).toInt)) (P := P) (T := T) (j := j + 34) hv.1 hv.2.1 hv.2.2.1 hv.2.2.2.1 hv.2.2.2.2.1 hv.2.2.2.2.2.1 hv.2.2.2.2.2.2.1 (fun c_1 h_1 => ?_)
  replace hv := hv.2.2.2.2.2.2.2 c_1 h_1
  refine sw_lcmp_same (tgt := 2308) (dL_law_8.at 26 rfl) (dL_law_8.at 27 rfl) (by decide) ?_
  exact hv

theorem cs_covers {G : GG} {j nw nx gn : Nat} {g : Nat → Sh} {c : Nat → Nat → Int} {post : Option AV → AM → Prop} {BL : BB} {P : GD} {T : PT} {ln : Nat} {bo : Nat → Nat} {n : Nat} {nb : Nat → Nat} {MT : Nat} {MA : Nat} {ii : Nat} (hG : G.2.1 < 2147483648) (hB1 : BL.1 ≤ BL.2.2.1) (hB2 : BL.2.1 ≤ BL.2.2.2) (hii : ii + 6 ≤ G.2.1) (hv : INV c nw nx P T ln bo n nb MT MA) (K : ∀ c2 : Nat → Nat → Int, INV c2 nw nx P T ln bo n nb MT MA → SW G (j + 40) mL_law 2308 [some (vf 0), some (vr (0)), some (vr (49)), some (vi (((ii : Nat) : Int)))] [] (S nw nx g, 78 + gn, c2) BL post) : SW G (j + 40) mL_law 798 [some (vf 0), some (vr (0)), some (vr (49)), some (vi (((ii : Nat) : Int)))] [] (S nw nx g, 78 + gn, c) BL post := by
  have hv0 := hv
  obtain ⟨hIT, hIP, hIR, hIE, ⟨hwx, hSP, ⟨⟨hV, hC, hDn, hSi⟩, ⟨hOr, hMi, hSp, hBr, hBt⟩, ⟨hLa, hGP, hP0, hHT⟩, hMv⟩, hbo, hbl, hE, hM, hln⟩, ⟨hPR, hCR, hRR⟩, hIM⟩ := hv
  have hIM0 := hIM
  obtain ⟨⟨hMT60, hMA30, hMA0, hMf, hMs⟩, ⟨hM1, hM2, hM3, hM4⟩, hM5, hM6⟩ := hIM
  have hnw : nw = 21 ∨ nw = 35 := by omega
  have hRb := hC.1.1
  have hLn := hC.1.2
  have hLn2 : ∀ s, s < gR P → s + 1 < gN P := hC.1.2
  refine g_law_covers (P := P) (T := T) hG hB1 hB2 ?_
  refine ⟨?_, ?_, ⟨?_, ?_, ⟨?_, ?_, ?_, ?_, ?_, ⟨?_, ?_, ⟨?_, ?_, ⟨?_, ?_, ?_, ?_, ?_, ?_, ?_, fun c_1 h_1 => ?_⟩⟩⟩⟩⟩⟩
  all_goals first | assumption | omega | exact i32rng _ | exact K _ (INV_SD hv0 h_1.1 h_1.2)

set_option maxHeartbeats 2000000 in
set_option maxRecDepth 20000 in
theorem g_law_interval {G : GG} {j nw nx gn : Nat} {g : Nat → Sh} {c : Nat → Nat → Int} {post : Option AV → AM → Prop} {BL : BB} {P : GD} {T : PT} {ii : Nat} (hG : G.2.1 < 2147483648) (hB1 : BL.1 ≤ BL.2.2.1) (hB2 : BL.2.1 ≤ BL.2.2.2)  (hv : (0 ≤ ((ii + 1 : Nat) : Int)) ∧ (((ii + 1 : Nat) : Int) < (G.2.1 : Int)) ∧ ((0 ≤ ((ii + 2 : Nat) : Int)) ∧ (((ii + 2 : Nat) : Int) < (G.2.1 : Int)) ∧ ((nw = 21 ∨ nw = 35) ∧ (EL c nw P) ∧ (GV P) ∧ (-2147483648 ≤ ((G.2.2 (((ii + 1 : Nat) : Int).toNat)).toInt) ∧ ((G.2.2 (((ii + 1 : Nat) : Int).toNat)).toInt) < 2147483648) ∧ (-2147483648 ≤ ((G.2.2 (((ii + 2 : Nat) : Int).toNat)).toInt) ∧ ((G.2.2 (((ii + 2 : Nat) : Int).toNat)).toInt) < 2147483648) ∧ ((0 ≤ ((ii + 1 : Nat) : Int)) ∧ (((ii + 1 : Nat) : Int) < (G.2.1 : Int)) ∧ ((0 ≤ ((ii + 2 : Nat) : Int)) ∧ (((ii + 2 : Nat) : Int) < (G.2.1 : Int)) ∧ ((ML c P) ∧ (GV P) ∧ (GC P) ∧ (GP P T) ∧ (RR P T c) ∧ (-2147483648 ≤ ((G.2.2 (((ii + 1 : Nat) : Int).toNat)).toInt) ∧ ((G.2.2 (((ii + 1 : Nat) : Int).toNat)).toInt) < 2147483648) ∧ (-2147483648 ≤ ((G.2.2 (((ii + 2 : Nat) : Int).toNat)).toInt) ∧ ((G.2.2 (((ii + 2 : Nat) : Int).toNat)).toInt) < 2147483648) ∧ (∀ c_1 : Nat → Nat → Int, (SD c c_1 ∧ RR P T c_1) → SW G (j + 40) mL_law 2308 [some (vf 0), some (vr (0)), some (vr (49)), some (vi (((ii : Nat) : Int)))] [] (S nw nx g, 78 + gn, c_1) BL post))))))) :
    SW G (j + 40) mL_law 832 [some (vf 0), some (vr (0)), some (vr (49)), some (vi (((ii : Nat) : Int)))] [] (S nw nx g, 78 + gn, c) BL post := by
  refine sw_aload_n (dL_law_8.at 30 rfl) rfl rfl ?_
  refine sw_aload_nf (dL_law_8.at 31 rfl) rfl rfl ?_
  refine sw_iload_n (dL_law_8.at 32 rfl) rfl rfl ?_
  refine sw_iconst (dL_law_8.at 33 rfl) ?_
  refine sw_iadd (dL_law_8.at 34 rfl) ?_
  refine sw_topI (y := ((ii + 1 : Nat) : Int)) (by first | rfl | (congr 1)) ?_
  refine sw_sld (dL_law_8.at 35 rfl) hG hv.1 hv.2.1 ?_
  replace hv := hv.2.2
  refine sw_aload_nf (dL_law_8.at 36 rfl) rfl rfl ?_
  refine sw_iload_n (dL_law_8.at 37 rfl) rfl rfl ?_
  refine sw_iconst (dL_law_8.at 38 rfl) ?_
  refine sw_iadd (dL_law_8.at 39 rfl) ?_
  refine sw_topI (y := ((ii + 2 : Nat) : Int)) (by first | rfl | (congr 1)) ?_
  refine sw_sld (dL_law_8.at 40 rfl) hG hv.1 hv.2.1 ?_
  replace hv := hv.2.2
  refine sw_callV (B' := BL) (As := [vi ((G.2.2 (((ii + 1 : Nat) : Int).toNat)).toInt), vi ((G.2.2 (((ii + 2 : Nat) : Int).toNat)).toInt)]) (mc := 0) (ms := 0) (dL_law_8.at 41 rfl) lk_L_92 (S_lt 0 (by decide)) (S_0 nw nx g) rfl rfl (Nat.le_of_ble_eq_true rfl) rfl hB1 hB2 ?_
  refine c_X8_interval (x := ((G.2.2 (((ii + 1 : Nat) : Int).toNat)).toInt)) (y := ((G.2.2 (((ii + 2 : Nat) : Int).toNat)).toInt)) (P := P) (j := j + 36) hv.1 hv.2.1 hv.2.2.1 hv.2.2.2.1 hv.2.2.2.2.1 ?_
  replace hv := hv.2.2.2.2.2
  refine sw_aload_n (dL_law_8.at 42 rfl) rfl rfl ?_
  refine sw_aload_nf (dL_law_8.at 43 rfl) rfl rfl ?_
  refine sw_iload_n (dL_law_8.at 44 rfl) rfl rfl ?_
  refine sw_iconst (dL_law_8.at 45 rfl) ?_
  refine sw_iadd (dL_law_8.at 46 rfl) ?_
  refine sw_topI (y := ((ii + 1 : Nat) : Int)) (by first | rfl | (congr 1)) ?_
  refine sw_sld (dL_law_8.at 47 rfl) hG hv.1 hv.2.1 ?_
  replace hv := hv.2.2
  refine sw_aload_nf (dL_law_8.at 48 rfl) rfl rfl ?_
  refine sw_iload_n (dL_law_8.at 49 rfl) rfl rfl ?_
  refine sw_iconst (dL_law_9.at 0 rfl) ?_
  refine sw_iadd (dL_law_9.at 1 rfl) ?_
  refine sw_topI (y := ((ii + 2 : Nat) : Int)) (by first | rfl | (congr 1)) ?_
  refine sw_sld (dL_law_9.at 2 rfl) hG hv.1 hv.2.1 ?_
  replace hv := hv.2.2
  refine sw_callV (B' := BL) (As := [vi ((G.2.2 (((ii + 1 : Nat) : Int).toNat)).toInt), vi ((G.2.2 (((ii + 2 : Nat) : Int).toNat)).toInt)]) (mc := 0) (ms := 0) (dL_law_9.at 3 rfl) lk_L_95 (S_lt 49 (by decide)) (S_49 nw nx g) rfl rfl (Nat.le_of_ble_eq_true rfl) rfl hB1 hB2 ?_
  refine c_X9_interval (x := ((G.2.2 (((ii + 1 : Nat) : Int).toNat)).toInt)) (y := ((G.2.2 (((ii + 2 : Nat) : Int).toNat)).toInt)) (P := P) (T := T) (j := j + 34) hv.1 hv.2.1 hv.2.2.1 hv.2.2.2.1 hv.2.2.2.2.1 hv.2.2.2.2.2.1 hv.2.2.2.2.2.2.1 (fun c_1 h_1 => ?_)
  replace hv := hv.2.2.2.2.2.2.2 c_1 h_1
  refine sw_lcmp_same (tgt := 2308) (dL_law_9.at 4 rfl) (dL_law_9.at 5 rfl) (by decide) ?_
  exact hv

theorem cs_interval {G : GG} {j nw nx gn : Nat} {g : Nat → Sh} {c : Nat → Nat → Int} {post : Option AV → AM → Prop} {BL : BB} {P : GD} {T : PT} {ln : Nat} {bo : Nat → Nat} {n : Nat} {nb : Nat → Nat} {MT : Nat} {MA : Nat} {ii : Nat} (hG : G.2.1 < 2147483648) (hB1 : BL.1 ≤ BL.2.2.1) (hB2 : BL.2.1 ≤ BL.2.2.2) (hii : ii + 6 ≤ G.2.1) (hv : INV c nw nx P T ln bo n nb MT MA) (K : ∀ c2 : Nat → Nat → Int, INV c2 nw nx P T ln bo n nb MT MA → SW G (j + 40) mL_law 2308 [some (vf 0), some (vr (0)), some (vr (49)), some (vi (((ii : Nat) : Int)))] [] (S nw nx g, 78 + gn, c2) BL post) : SW G (j + 40) mL_law 832 [some (vf 0), some (vr (0)), some (vr (49)), some (vi (((ii : Nat) : Int)))] [] (S nw nx g, 78 + gn, c) BL post := by
  have hv0 := hv
  obtain ⟨hIT, hIP, hIR, hIE, ⟨hwx, hSP, ⟨⟨hV, hC, hDn, hSi⟩, ⟨hOr, hMi, hSp, hBr, hBt⟩, ⟨hLa, hGP, hP0, hHT⟩, hMv⟩, hbo, hbl, hE, hM, hln⟩, ⟨hPR, hCR, hRR⟩, hIM⟩ := hv
  have hIM0 := hIM
  obtain ⟨⟨hMT60, hMA30, hMA0, hMf, hMs⟩, ⟨hM1, hM2, hM3, hM4⟩, hM5, hM6⟩ := hIM
  have hnw : nw = 21 ∨ nw = 35 := by omega
  have hRb := hC.1.1
  have hLn := hC.1.2
  have hLn2 : ∀ s, s < gR P → s + 1 < gN P := hC.1.2
  refine g_law_interval (P := P) (T := T) hG hB1 hB2 ?_
  refine ⟨?_, ?_, ⟨?_, ?_, ⟨?_, ?_, ?_, ?_, ?_, ⟨?_, ?_, ⟨?_, ?_, ⟨?_, ?_, ?_, ?_, ?_, ?_, ?_, fun c_1 h_1 => ?_⟩⟩⟩⟩⟩⟩
  all_goals first | assumption | omega | exact i32rng _ | exact K _ (INV_SD hv0 h_1.1 h_1.2)

set_option maxHeartbeats 2000000 in
set_option maxRecDepth 20000 in
theorem g_law_layer {G : GG} {j nw nx gn : Nat} {g : Nat → Sh} {c : Nat → Nat → Int} {post : Option AV → AM → Prop} {BL : BB} {P : GD} {T : PT} {ii : Nat} (hG : G.2.1 < 2147483648) (hB1 : BL.1 ≤ BL.2.2.1) (hB2 : BL.2.1 ≤ BL.2.2.2)  (hv : (0 ≤ ((ii + 1 : Nat) : Int)) ∧ (((ii + 1 : Nat) : Int) < (G.2.1 : Int)) ∧ ((0 ≤ ((ii + 2 : Nat) : Int)) ∧ (((ii + 2 : Nat) : Int) < (G.2.1 : Int)) ∧ ((0 ≤ ((ii + 3 : Nat) : Int)) ∧ (((ii + 3 : Nat) : Int) < (G.2.1 : Int)) ∧ ((nw = 21 ∨ nw = 35) ∧ (EL c nw P) ∧ (GV P) ∧ (-2147483648 ≤ ((G.2.2 (((ii + 1 : Nat) : Int).toNat)).toInt) ∧ ((G.2.2 (((ii + 1 : Nat) : Int).toNat)).toInt) < 2147483648) ∧ (-2147483648 ≤ ((G.2.2 (((ii + 2 : Nat) : Int).toNat)).toInt) ∧ ((G.2.2 (((ii + 2 : Nat) : Int).toNat)).toInt) < 2147483648) ∧ (-2147483648 ≤ ((G.2.2 (((ii + 3 : Nat) : Int).toNat)).toInt) ∧ ((G.2.2 (((ii + 3 : Nat) : Int).toNat)).toInt) < 2147483648) ∧ ((0 ≤ ((ii + 1 : Nat) : Int)) ∧ (((ii + 1 : Nat) : Int) < (G.2.1 : Int)) ∧ ((0 ≤ ((ii + 2 : Nat) : Int)) ∧ (((ii + 2 : Nat) : Int) < (G.2.1 : Int)) ∧ ((0 ≤ ((ii + 3 : Nat) : Int)) ∧ (((ii + 3 : Nat) : Int) < (G.2.1 : Int)) ∧ ((ML c P) ∧ (GV P) ∧ (GC P) ∧ (GP P T) ∧ (RR P T c) ∧ (-2147483648 ≤ ((G.2.2 (((ii + 1 : Nat) : Int).toNat)).toInt) ∧ ((G.2.2 (((ii + 1 : Nat) : Int).toNat)).toInt) < 2147483648) ∧ (-2147483648 ≤ ((G.2.2 (((ii + 2 : Nat) : Int).toNat)).toInt) ∧ ((G.2.2 (((ii + 2 : Nat) : Int).toNat)).toInt) < 2147483648) ∧ (-2147483648 ≤ ((G.2.2 (((ii + 3 : Nat) : Int).toNat)).toInt) ∧ ((G.2.2 (((ii + 3 : Nat) : Int).toNat)).toInt) < 2147483648) ∧ (∀ c_1 : Nat → Nat → Int, (SD c c_1 ∧ RR P T c_1) → SW G (j + 40) mL_law 2308 [some (vf 0), some (vr (0)), some (vr (49)), some (vi (((ii : Nat) : Int)))] [] (S nw nx g, 78 + gn, c_1) BL post))))))))) :
    SW G (j + 40) mL_law 866 [some (vf 0), some (vr (0)), some (vr (49)), some (vi (((ii : Nat) : Int)))] [] (S nw nx g, 78 + gn, c) BL post := by
  refine sw_aload_n (dL_law_9.at 8 rfl) rfl rfl ?_
  refine sw_aload_nf (dL_law_9.at 9 rfl) rfl rfl ?_
  refine sw_iload_n (dL_law_9.at 10 rfl) rfl rfl ?_
  refine sw_iconst (dL_law_9.at 11 rfl) ?_
  refine sw_iadd (dL_law_9.at 12 rfl) ?_
  refine sw_topI (y := ((ii + 1 : Nat) : Int)) (by first | rfl | (congr 1)) ?_
  refine sw_sld (dL_law_9.at 13 rfl) hG hv.1 hv.2.1 ?_
  replace hv := hv.2.2
  refine sw_aload_nf (dL_law_9.at 14 rfl) rfl rfl ?_
  refine sw_iload_n (dL_law_9.at 15 rfl) rfl rfl ?_
  refine sw_iconst (dL_law_9.at 16 rfl) ?_
  refine sw_iadd (dL_law_9.at 17 rfl) ?_
  refine sw_topI (y := ((ii + 2 : Nat) : Int)) (by first | rfl | (congr 1)) ?_
  refine sw_sld (dL_law_9.at 18 rfl) hG hv.1 hv.2.1 ?_
  replace hv := hv.2.2
  refine sw_aload_nf (dL_law_9.at 19 rfl) rfl rfl ?_
  refine sw_iload_n (dL_law_9.at 20 rfl) rfl rfl ?_
  refine sw_iconst (dL_law_9.at 21 rfl) ?_
  refine sw_iadd (dL_law_9.at 22 rfl) ?_
  refine sw_topI (y := ((ii + 3 : Nat) : Int)) (by first | rfl | (congr 1)) ?_
  refine sw_sld (dL_law_9.at 23 rfl) hG hv.1 hv.2.1 ?_
  replace hv := hv.2.2
  refine sw_callV (B' := BL) (As := [vi ((G.2.2 (((ii + 1 : Nat) : Int).toNat)).toInt), vi ((G.2.2 (((ii + 2 : Nat) : Int).toNat)).toInt), vi ((G.2.2 (((ii + 3 : Nat) : Int).toNat)).toInt)]) (mc := 0) (ms := 0) (dL_law_9.at 24 rfl) lk_L_96 (S_lt 0 (by decide)) (S_0 nw nx g) rfl rfl (Nat.le_of_ble_eq_true rfl) rfl hB1 hB2 ?_
  refine c_X8_layer (x := ((G.2.2 (((ii + 1 : Nat) : Int).toNat)).toInt)) (y := ((G.2.2 (((ii + 2 : Nat) : Int).toNat)).toInt)) (n0 := ((G.2.2 (((ii + 3 : Nat) : Int).toNat)).toInt)) (P := P) (j := j + 36) hv.1 hv.2.1 hv.2.2.1 hv.2.2.2.1 hv.2.2.2.2.1 hv.2.2.2.2.2.1 ?_
  replace hv := hv.2.2.2.2.2.2
  refine sw_aload_n (dL_law_9.at 25 rfl) rfl rfl ?_
  refine sw_aload_nf (dL_law_9.at 26 rfl) rfl rfl ?_
  refine sw_iload_n (dL_law_9.at 27 rfl) rfl rfl ?_
  refine sw_iconst (dL_law_9.at 28 rfl) ?_
  refine sw_iadd (dL_law_9.at 29 rfl) ?_
  refine sw_topI (y := ((ii + 1 : Nat) : Int)) (by first | rfl | (congr 1)) ?_
  refine sw_sld (dL_law_9.at 30 rfl) hG hv.1 hv.2.1 ?_
  replace hv := hv.2.2
  refine sw_aload_nf (dL_law_9.at 31 rfl) rfl rfl ?_
  refine sw_iload_n (dL_law_9.at 32 rfl) rfl rfl ?_
  refine sw_iconst (dL_law_9.at 33 rfl) ?_
  refine sw_iadd (dL_law_9.at 34 rfl) ?_
  refine sw_topI (y := ((ii + 2 : Nat) : Int)) (by first | rfl | (congr 1)) ?_
  refine sw_sld (dL_law_9.at 35 rfl) hG hv.1 hv.2.1 ?_
  replace hv := hv.2.2
  refine sw_aload_nf (dL_law_9.at 36 rfl) rfl rfl ?_
  refine sw_iload_n (dL_law_9.at 37 rfl) rfl rfl ?_
  refine sw_iconst (dL_law_9.at 38 rfl) ?_
  refine sw_iadd (dL_law_9.at 39 rfl) ?_
  refine sw_topI (y := ((ii + 3 : Nat) : Int)) (by first | rfl | (congr 1)) ?_
  refine sw_sld (dL_law_9.at 40 rfl) hG hv.1 hv.2.1 ?_
  replace hv := hv.2.2
  refine sw_callV (B' := BL) (As := [vi ((G.2.2 (((ii + 1 : Nat) : Int).toNat)).toInt), vi ((G.2.2 (((ii + 2 : Nat) : Int).toNat)).toInt), vi ((G.2.2 (((ii + 3 : Nat) : Int).toNat)).toInt)]) (mc := 0) (ms := 0) (dL_law_9.at 41 rfl) lk_L_99 (S_lt 49 (by decide)) (S_49 nw nx g) rfl rfl (Nat.le_of_ble_eq_true rfl) rfl hB1 hB2 ?_
  refine c_X9_layer (x := ((G.2.2 (((ii + 1 : Nat) : Int).toNat)).toInt)) (y := ((G.2.2 (((ii + 2 : Nat) : Int).toNat)).toInt)) (n0 := ((G.2.2 (((ii + 3 : Nat) : Int).toNat)).toInt)) (P := P) (T := T) (j := j + 34) hv.1 hv.2.1 hv.2.2.1 hv.2.2.2.1 hv.2.2.2.2.1 hv.2.2.2.2.2.1 hv.2.2.2.2.2.2.1 hv.2.2.2.2.2.2.2.1 (fun c_1 h_1 => ?_)
  replace hv := hv.2.2.2.2.2.2.2.2 c_1 h_1
  refine sw_icmp_same (tgt := 2308) (dL_law_9.at 42 rfl) (by decide) ?_
  exact hv

theorem cs_layer {G : GG} {j nw nx gn : Nat} {g : Nat → Sh} {c : Nat → Nat → Int} {post : Option AV → AM → Prop} {BL : BB} {P : GD} {T : PT} {ln : Nat} {bo : Nat → Nat} {n : Nat} {nb : Nat → Nat} {MT : Nat} {MA : Nat} {ii : Nat} (hG : G.2.1 < 2147483648) (hB1 : BL.1 ≤ BL.2.2.1) (hB2 : BL.2.1 ≤ BL.2.2.2) (hii : ii + 6 ≤ G.2.1) (hv : INV c nw nx P T ln bo n nb MT MA) (K : ∀ c2 : Nat → Nat → Int, INV c2 nw nx P T ln bo n nb MT MA → SW G (j + 40) mL_law 2308 [some (vf 0), some (vr (0)), some (vr (49)), some (vi (((ii : Nat) : Int)))] [] (S nw nx g, 78 + gn, c2) BL post) : SW G (j + 40) mL_law 866 [some (vf 0), some (vr (0)), some (vr (49)), some (vi (((ii : Nat) : Int)))] [] (S nw nx g, 78 + gn, c) BL post := by
  have hv0 := hv
  obtain ⟨hIT, hIP, hIR, hIE, ⟨hwx, hSP, ⟨⟨hV, hC, hDn, hSi⟩, ⟨hOr, hMi, hSp, hBr, hBt⟩, ⟨hLa, hGP, hP0, hHT⟩, hMv⟩, hbo, hbl, hE, hM, hln⟩, ⟨hPR, hCR, hRR⟩, hIM⟩ := hv
  have hIM0 := hIM
  obtain ⟨⟨hMT60, hMA30, hMA0, hMf, hMs⟩, ⟨hM1, hM2, hM3, hM4⟩, hM5, hM6⟩ := hIM
  have hnw : nw = 21 ∨ nw = 35 := by omega
  have hRb := hC.1.1
  have hLn := hC.1.2
  have hLn2 : ∀ s, s < gR P → s + 1 < gN P := hC.1.2
  refine g_law_layer (P := P) (T := T) hG hB1 hB2 ?_
  refine ⟨?_, ?_, ⟨?_, ?_, ⟨?_, ?_, ⟨?_, ?_, ?_, ?_, ?_, ?_, ⟨?_, ?_, ⟨?_, ?_, ⟨?_, ?_, ⟨?_, ?_, ?_, ?_, ?_, ?_, ?_, ?_, fun c_1 h_1 => ?_⟩⟩⟩⟩⟩⟩⟩⟩
  all_goals first | assumption | omega | exact i32rng _ | exact K _ (INV_SD hv0 h_1.1 h_1.2)

set_option maxHeartbeats 2000000 in
set_option maxRecDepth 20000 in
theorem g_law_chains {G : GG} {j nw nx gn : Nat} {g : Nat → Sh} {c : Nat → Nat → Int} {post : Option AV → AM → Prop} {BL : BB} {P : GD} {T : PT} {ii : Nat} (hG : G.2.1 < 2147483648) (hB1 : BL.1 ≤ BL.2.2.1) (hB2 : BL.2.1 ≤ BL.2.2.2)  (hv : (0 ≤ ((ii + 1 : Nat) : Int)) ∧ (((ii + 1 : Nat) : Int) < (G.2.1 : Int)) ∧ ((0 ≤ ((ii + 2 : Nat) : Int)) ∧ (((ii + 2 : Nat) : Int) < (G.2.1 : Int)) ∧ ((nw = 21 ∨ nw = 35) ∧ (EL c nw P) ∧ (GV P) ∧ (-2147483648 ≤ ((G.2.2 (((ii + 1 : Nat) : Int).toNat)).toInt) ∧ ((G.2.2 (((ii + 1 : Nat) : Int).toNat)).toInt) < 2147483648) ∧ (-2147483648 ≤ ((G.2.2 (((ii + 2 : Nat) : Int).toNat)).toInt) ∧ ((G.2.2 (((ii + 2 : Nat) : Int).toNat)).toInt) < 2147483648) ∧ (∀ c_1 : Nat → Nat → Int, (∀ a, a ≠ 20 → c_1 a = c a) → (0 ≤ ((ii + 1 : Nat) : Int)) ∧ (((ii + 1 : Nat) : Int) < (G.2.1 : Int)) ∧ ((0 ≤ ((ii + 2 : Nat) : Int)) ∧ (((ii + 2 : Nat) : Int) < (G.2.1 : Int)) ∧ ((ML c_1 P) ∧ (GV P) ∧ (GC P) ∧ (GP P T) ∧ (RR P T c_1) ∧ (hBt P) ∧ (-2147483648 ≤ ((G.2.2 (((ii + 1 : Nat) : Int).toNat)).toInt) ∧ ((G.2.2 (((ii + 1 : Nat) : Int).toNat)).toInt) < 2147483648) ∧ (-2147483648 ≤ ((G.2.2 (((ii + 2 : Nat) : Int).toNat)).toInt) ∧ ((G.2.2 (((ii + 2 : Nat) : Int).toNat)).toInt) < 2147483648) ∧ (∀ c_2 : Nat → Nat → Int, (SD c_1 c_2 ∧ RR P T c_2) → SW G (j + 40) mL_law 2308 [some (vf 0), some (vr (0)), some (vr (49)), some (vi (((ii : Nat) : Int)))] [] (S nw nx g, 78 + gn, c_2) BL post))))))) :
    SW G (j + 40) mL_law 909 [some (vf 0), some (vr (0)), some (vr (49)), some (vi (((ii : Nat) : Int)))] [] (S nw nx g, 78 + gn, c) BL post := by
  refine sw_aload_n (dL_law_9.at 45 rfl) rfl rfl ?_
  refine sw_aload_nf (dL_law_9.at 46 rfl) rfl rfl ?_
  refine sw_iload_n (dL_law_9.at 47 rfl) rfl rfl ?_
  refine sw_iconst (dL_law_9.at 48 rfl) ?_
  refine sw_iadd (dL_law_9.at 49 rfl) ?_
  refine sw_topI (y := ((ii + 1 : Nat) : Int)) (by first | rfl | (congr 1)) ?_
  refine sw_sld (dL_law_10.at 0 rfl) hG hv.1 hv.2.1 ?_
  replace hv := hv.2.2
  refine sw_aload_nf (dL_law_10.at 1 rfl) rfl rfl ?_
  refine sw_iload_n (dL_law_10.at 2 rfl) rfl rfl ?_
  refine sw_iconst (dL_law_10.at 3 rfl) ?_
  refine sw_iadd (dL_law_10.at 4 rfl) ?_
  refine sw_topI (y := ((ii + 2 : Nat) : Int)) (by first | rfl | (congr 1)) ?_
  refine sw_sld (dL_law_10.at 5 rfl) hG hv.1 hv.2.1 ?_
  replace hv := hv.2.2
  refine sw_callV (B' := BL) (As := [vi ((G.2.2 (((ii + 1 : Nat) : Int).toNat)).toInt), vi ((G.2.2 (((ii + 2 : Nat) : Int).toNat)).toInt)]) (mc := 0) (ms := 0) (dL_law_10.at 6 rfl) lk_L_100 (S_lt 0 (by decide)) (S_0 nw nx g) rfl rfl (Nat.le_of_ble_eq_true rfl) rfl hB1 hB2 ?_
  refine c_X8_chains (x := ((G.2.2 (((ii + 1 : Nat) : Int).toNat)).toInt)) (y := ((G.2.2 (((ii + 2 : Nat) : Int).toNat)).toInt)) (P := P) (j := j + 35) hv.1 hv.2.1 hv.2.2.1 hv.2.2.2.1 hv.2.2.2.2.1 (fun c_1 h_1 => ?_)
  replace hv := hv.2.2.2.2.2 c_1 h_1
  refine sw_aload_n (dL_law_10.at 7 rfl) rfl rfl ?_
  refine sw_aload_nf (dL_law_10.at 8 rfl) rfl rfl ?_
  refine sw_iload_n (dL_law_10.at 9 rfl) rfl rfl ?_
  refine sw_iconst (dL_law_10.at 10 rfl) ?_
  refine sw_iadd (dL_law_10.at 11 rfl) ?_
  refine sw_topI (y := ((ii + 1 : Nat) : Int)) (by first | rfl | (congr 1)) ?_
  refine sw_sld (dL_law_10.at 12 rfl) hG hv.1 hv.2.1 ?_
  replace hv := hv.2.2
  refine sw_aload_nf (dL_law_10.at 13 rfl) rfl rfl ?_
  refine sw_iload_n (dL_law_10.at 14 rfl) rfl rfl ?_
  refine sw_iconst (dL_law_10.at 15 rfl) ?_
  refine sw_iadd (dL_law_10.at 16 rfl) ?_
  refine sw_topI (y := ((ii + 2 : Nat) : Int)) (by first | rfl | (congr 1)) ?_
  refine sw_sld (dL_law_10.at 17 rfl) hG hv.1 hv.2.1 ?_
  replace hv := hv.2.2
  refine sw_callV (B' := BL) (As := [vi ((G.2.2 (((ii + 1 : Nat) : Int).toNat)).toInt), vi ((G.2.2 (((ii + 2 : Nat) : Int).toNat)).toInt)]) (mc := 0) (ms := 0) (dL_law_10.at 18 rfl) lk_L_103 (S_lt 49 (by decide)) (S_49 nw nx g) rfl rfl (Nat.le_of_ble_eq_true rfl) rfl hB1 hB2 ?_
  refine c_X9_chains (x := ((G.2.2 (((ii + 1 : Nat) : Int).toNat)).toInt)) (y := ((G.2.2 (((ii + 2 : Nat) : Int).toNat)).toInt)) (P := P) (T := T) (j := j + 34) hv.1 hv.2.1 hv.2.2.1 hv.2.2.2.1 hv.2.2.2.2.1 hv.2.2.2.2.2.1 hv.2.2.2.2.2.2.1 hv.2.2.2.2.2.2.2.1 (fun c_2 h_2 => ?_)
  replace hv := hv.2.2.2.2.2.2.2.2 c_2 h_2
  refine sw_lcmp_same (tgt := 2308) (dL_law_10.at 19 rfl) (dL_law_10.at 20 rfl) (by decide) ?_
  exact hv

theorem cs_chains {G : GG} {j nw nx gn : Nat} {g : Nat → Sh} {c : Nat → Nat → Int} {post : Option AV → AM → Prop} {BL : BB} {P : GD} {T : PT} {ln : Nat} {bo : Nat → Nat} {n : Nat} {nb : Nat → Nat} {MT : Nat} {MA : Nat} {ii : Nat} (hG : G.2.1 < 2147483648) (hB1 : BL.1 ≤ BL.2.2.1) (hB2 : BL.2.1 ≤ BL.2.2.2) (hii : ii + 6 ≤ G.2.1) (hv : INV c nw nx P T ln bo n nb MT MA) (K : ∀ c2 : Nat → Nat → Int, INV c2 nw nx P T ln bo n nb MT MA → SW G (j + 40) mL_law 2308 [some (vf 0), some (vr (0)), some (vr (49)), some (vi (((ii : Nat) : Int)))] [] (S nw nx g, 78 + gn, c2) BL post) : SW G (j + 40) mL_law 909 [some (vf 0), some (vr (0)), some (vr (49)), some (vi (((ii : Nat) : Int)))] [] (S nw nx g, 78 + gn, c) BL post := by
  have hv0 := hv
  obtain ⟨hIT, hIP, hIR, hIE, ⟨hwx, hSP, ⟨⟨hV, hC, hDn, hSi⟩, ⟨hOr, hMi, hSp, hBr, hBt⟩, ⟨hLa, hGP, hP0, hHT⟩, hMv⟩, hbo, hbl, hE, hM, hln⟩, ⟨hPR, hCR, hRR⟩, hIM⟩ := hv
  have hIM0 := hIM
  obtain ⟨⟨hMT60, hMA30, hMA0, hMf, hMs⟩, ⟨hM1, hM2, hM3, hM4⟩, hM5, hM6⟩ := hIM
  have hnw : nw = 21 ∨ nw = 35 := by omega
  have hRb := hC.1.1
  have hLn := hC.1.2
  have hLn2 : ∀ s, s < gR P → s + 1 < gN P := hC.1.2
  refine g_law_chains (P := P) (T := T) hG hB1 hB2 ?_
  refine ⟨?_, ?_, ⟨?_, ?_, ⟨?_, ?_, ?_, ?_, ?_, fun c_1 h_1 => ⟨?_, ?_, ⟨?_, ?_, ⟨?_, ?_, ?_, ?_, ?_, ?_, ?_, ?_, fun c_2 h_2 => ?_⟩⟩⟩⟩⟩⟩
  all_goals first | assumption | omega | exact i32rng _ | exact ML_row hM (fun a ha hb => h_1 a (by omega)) | exact RR_row hRR (fun a ha hb => h_1 a (by omega)) | exact K _ (INV_SD (INV_C0 hv0 (fun a ha hb => h_1 a hb)) h_2.1 h_2.2)

set_option maxHeartbeats 2000000 in
set_option maxRecDepth 20000 in
theorem g_law_layers {G : GG} {j nw nx gn : Nat} {g : Nat → Sh} {c : Nat → Nat → Int} {post : Option AV → AM → Prop} {BL : BB} {P : GD} {ii : Nat} (hG : G.2.1 < 2147483648) (hB1 : BL.1 ≤ BL.2.2.1) (hB2 : BL.2.1 ≤ BL.2.2.2)  (hv : (0 ≤ ((ii + 1 : Nat) : Int)) ∧ (((ii + 1 : Nat) : Int) < (G.2.1 : Int)) ∧ ((nw = 21 ∨ nw = 35) ∧ (EL c nw P) ∧ (GV P) ∧ (-2147483648 ≤ ((G.2.2 (((ii + 1 : Nat) : Int).toNat)).toInt) ∧ ((G.2.2 (((ii + 1 : Nat) : Int).toNat)).toInt) < 2147483648) ∧ ((0 ≤ ((ii + 1 : Nat) : Int)) ∧ (((ii + 1 : Nat) : Int) < (G.2.1 : Int)) ∧ ((ML c P) ∧ (GV P) ∧ (GC P) ∧ (-2147483648 ≤ ((G.2.2 (((ii + 1 : Nat) : Int).toNat)).toInt) ∧ ((G.2.2 (((ii + 1 : Nat) : Int).toNat)).toInt) < 2147483648) ∧ (∀ c_1 : Nat → Nat → Int, SC c c_1 → SW G (j + 40) mL_law 2308 [some (vf 0), some (vr (0)), some (vr (49)), some (vi (((ii : Nat) : Int)))] [] (S nw nx g, 78 + gn, c_1) BL post))))) :
    SW G (j + 40) mL_law 943 [some (vf 0), some (vr (0)), some (vr (49)), some (vi (((ii : Nat) : Int)))] [] (S nw nx g, 78 + gn, c) BL post := by
  refine sw_aload_n (dL_law_10.at 23 rfl) rfl rfl ?_
  refine sw_aload_nf (dL_law_10.at 24 rfl) rfl rfl ?_
  refine sw_iload_n (dL_law_10.at 25 rfl) rfl rfl ?_
  refine sw_iconst (dL_law_10.at 26 rfl) ?_
  refine sw_iadd (dL_law_10.at 27 rfl) ?_
  refine sw_topI (y := ((ii + 1 : Nat) : Int)) (by first | rfl | (congr 1)) ?_
  refine sw_sld (dL_law_10.at 28 rfl) hG hv.1 hv.2.1 ?_
  replace hv := hv.2.2
  refine sw_callV (B' := BL) (As := [vi ((G.2.2 (((ii + 1 : Nat) : Int).toNat)).toInt)]) (mc := 0) (ms := 0) (dL_law_10.at 29 rfl) lk_L_104 (S_lt 0 (by decide)) (S_0 nw nx g) rfl rfl (Nat.le_of_ble_eq_true rfl) rfl hB1 hB2 ?_
  refine c_X8_layers (n0 := ((G.2.2 (((ii + 1 : Nat) : Int).toNat)).toInt)) (P := P) (j := j + 39) hv.1 hv.2.1 hv.2.2.1 hv.2.2.2.1 ?_
  replace hv := hv.2.2.2.2
  refine sw_aload_n (dL_law_10.at 30 rfl) rfl rfl ?_
  refine sw_aload_nf (dL_law_10.at 31 rfl) rfl rfl ?_
  refine sw_iload_n (dL_law_10.at 32 rfl) rfl rfl ?_
  refine sw_iconst (dL_law_10.at 33 rfl) ?_
  refine sw_iadd (dL_law_10.at 34 rfl) ?_
  refine sw_topI (y := ((ii + 1 : Nat) : Int)) (by first | rfl | (congr 1)) ?_
  refine sw_sld (dL_law_10.at 35 rfl) hG hv.1 hv.2.1 ?_
  replace hv := hv.2.2
  refine sw_callV (B' := BL) (As := [vi ((G.2.2 (((ii + 1 : Nat) : Int).toNat)).toInt)]) (mc := 0) (ms := 0) (dL_law_10.at 36 rfl) lk_L_107 (S_lt 49 (by decide)) (S_49 nw nx g) rfl rfl (Nat.le_of_ble_eq_true rfl) rfl hB1 hB2 ?_
  refine c_X9_layers (n0 := ((G.2.2 (((ii + 1 : Nat) : Int).toNat)).toInt)) (P := P) (j := j + 38) hv.1 hv.2.1 hv.2.2.1 hv.2.2.2.1 (fun c_1 h_1 => ?_)
  replace hv := hv.2.2.2.2 c_1 h_1
  refine sw_icmp_same (tgt := 2308) (dL_law_10.at 37 rfl) (by decide) ?_
  exact hv

theorem cs_layers {G : GG} {j nw nx gn : Nat} {g : Nat → Sh} {c : Nat → Nat → Int} {post : Option AV → AM → Prop} {BL : BB} {P : GD} {T : PT} {ln : Nat} {bo : Nat → Nat} {n : Nat} {nb : Nat → Nat} {MT : Nat} {MA : Nat} {ii : Nat} (hG : G.2.1 < 2147483648) (hB1 : BL.1 ≤ BL.2.2.1) (hB2 : BL.2.1 ≤ BL.2.2.2) (hii : ii + 6 ≤ G.2.1) (hv : INV c nw nx P T ln bo n nb MT MA) (K : ∀ c2 : Nat → Nat → Int, INV c2 nw nx P T ln bo n nb MT MA → SW G (j + 40) mL_law 2308 [some (vf 0), some (vr (0)), some (vr (49)), some (vi (((ii : Nat) : Int)))] [] (S nw nx g, 78 + gn, c2) BL post) : SW G (j + 40) mL_law 943 [some (vf 0), some (vr (0)), some (vr (49)), some (vi (((ii : Nat) : Int)))] [] (S nw nx g, 78 + gn, c) BL post := by
  have hv0 := hv
  obtain ⟨hIT, hIP, hIR, hIE, ⟨hwx, hSP, ⟨⟨hV, hC, hDn, hSi⟩, ⟨hOr, hMi, hSp, hBr, hBt⟩, ⟨hLa, hGP, hP0, hHT⟩, hMv⟩, hbo, hbl, hE, hM, hln⟩, ⟨hPR, hCR, hRR⟩, hIM⟩ := hv
  have hIM0 := hIM
  obtain ⟨⟨hMT60, hMA30, hMA0, hMf, hMs⟩, ⟨hM1, hM2, hM3, hM4⟩, hM5, hM6⟩ := hIM
  have hnw : nw = 21 ∨ nw = 35 := by omega
  have hRb := hC.1.1
  have hLn := hC.1.2
  have hLn2 : ∀ s, s < gR P → s + 1 < gN P := hC.1.2
  refine g_law_layers (P := P) hG hB1 hB2 ?_
  refine ⟨?_, ?_, ⟨?_, ?_, ?_, ?_, ⟨?_, ?_, ⟨?_, ?_, ?_, ?_, fun c_1 h_1 => ?_⟩⟩⟩⟩
  all_goals first | assumption | omega | exact i32rng _ | exact K _ (INV_SC hv0 h_1)

set_option maxHeartbeats 2000000 in
set_option maxRecDepth 20000 in
theorem g_law_r {G : GG} {j nw nx gn : Nat} {g : Nat → Sh} {c : Nat → Nat → Int} {post : Option AV → AM → Prop} {BL : BB} {P : GD} {T : PT} {ii : Nat} (hG : G.2.1 < 2147483648) (hB1 : BL.1 ≤ BL.2.2.1) (hB2 : BL.2.1 ≤ BL.2.2.2)  (hv : (0 ≤ ((ii + 1 : Nat) : Int)) ∧ (((ii + 1 : Nat) : Int) < (G.2.1 : Int)) ∧ ((0 ≤ ((ii + 2 : Nat) : Int)) ∧ (((ii + 2 : Nat) : Int) < (G.2.1 : Int)) ∧ ((0 ≤ ((ii + 3 : Nat) : Int)) ∧ (((ii + 3 : Nat) : Int) < (G.2.1 : Int)) ∧ ((nw = 21 ∨ nw = 35) ∧ (EL c nw P) ∧ (GV P) ∧ (-2147483648 ≤ ((G.2.2 (((ii + 1 : Nat) : Int).toNat)).toInt) ∧ ((G.2.2 (((ii + 1 : Nat) : Int).toNat)).toInt) < 2147483648) ∧ (-2147483648 ≤ ((G.2.2 (((ii + 2 : Nat) : Int).toNat)).toInt) ∧ ((G.2.2 (((ii + 2 : Nat) : Int).toNat)).toInt) < 2147483648) ∧ (-2147483648 ≤ ((G.2.2 (((ii + 3 : Nat) : Int).toNat)).toInt) ∧ ((G.2.2 (((ii + 3 : Nat) : Int).toNat)).toInt) < 2147483648) ∧ (∀ c_1 : Nat → Nat → Int, (∀ a, a ≠ 10 → c_1 a = c a) → (0 ≤ ((ii + 1 : Nat) : Int)) ∧ (((ii + 1 : Nat) : Int) < (G.2.1 : Int)) ∧ ((0 ≤ ((ii + 2 : Nat) : Int)) ∧ (((ii + 2 : Nat) : Int) < (G.2.1 : Int)) ∧ ((0 ≤ ((ii + 3 : Nat) : Int)) ∧ (((ii + 3 : Nat) : Int) < (G.2.1 : Int)) ∧ ((ML c_1 P) ∧ (GV P) ∧ (GC P) ∧ (GP P T) ∧ (RR P T c_1) ∧ (-2147483648 ≤ ((G.2.2 (((ii + 1 : Nat) : Int).toNat)).toInt) ∧ ((G.2.2 (((ii + 1 : Nat) : Int).toNat)).toInt) < 2147483648) ∧ (-2147483648 ≤ ((G.2.2 (((ii + 2 : Nat) : Int).toNat)).toInt) ∧ ((G.2.2 (((ii + 2 : Nat) : Int).toNat)).toInt) < 2147483648) ∧ (-2147483648 ≤ ((G.2.2 (((ii + 3 : Nat) : Int).toNat)).toInt) ∧ ((G.2.2 (((ii + 3 : Nat) : Int).toNat)).toInt) < 2147483648) ∧ (∀ c_2 : Nat → Nat → Int, (SD c_1 c_2 ∧ RR P T c_2) → SW G (j + 40) mL_law 2308 [some (vf 0), some (vr (0)), some (vr (49)), some (vi (((ii : Nat) : Int)))] [] (S nw nx g, 78 + gn, c_2) BL post))))))))) :
    SW G (j + 40) mL_law 966 [some (vf 0), some (vr (0)), some (vr (49)), some (vi (((ii : Nat) : Int)))] [] (S nw nx g, 78 + gn, c) BL post := by
  refine sw_aload_n (dL_law_10.at 40 rfl) rfl rfl ?_
  refine sw_aload_nf (dL_law_10.at 41 rfl) rfl rfl ?_
  refine sw_iload_n (dL_law_10.at 42 rfl) rfl rfl ?_
  refine sw_iconst (dL_law_10.at 43 rfl) ?_
  refine sw_iadd (dL_law_10.at 44 rfl) ?_
  refine sw_topI (y := ((ii + 1 : Nat) : Int)) (by first | rfl | (congr 1)) ?_
  refine sw_sld (dL_law_10.at 45 rfl) hG hv.1 hv.2.1 ?_
  replace hv := hv.2.2
  refine sw_aload_nf (dL_law_10.at 46 rfl) rfl rfl ?_
  refine sw_iload_n (dL_law_10.at 47 rfl) rfl rfl ?_
  refine sw_iconst (dL_law_10.at 48 rfl) ?_
  refine sw_iadd (dL_law_10.at 49 rfl) ?_
  refine sw_topI (y := ((ii + 2 : Nat) : Int)) (by first | rfl | (congr 1)) ?_
  refine sw_sld (dL_law_11.at 0 rfl) hG hv.1 hv.2.1 ?_
  replace hv := hv.2.2
  refine sw_aload_nf (dL_law_11.at 1 rfl) rfl rfl ?_
  refine sw_iload_n (dL_law_11.at 2 rfl) rfl rfl ?_
  refine sw_iconst (dL_law_11.at 3 rfl) ?_
  refine sw_iadd (dL_law_11.at 4 rfl) ?_
  refine sw_topI (y := ((ii + 3 : Nat) : Int)) (by first | rfl | (congr 1)) ?_
  refine sw_sld (dL_law_11.at 5 rfl) hG hv.1 hv.2.1 ?_
  replace hv := hv.2.2
  refine sw_callV (B' := BL) (As := [vi ((G.2.2 (((ii + 1 : Nat) : Int).toNat)).toInt), vi ((G.2.2 (((ii + 2 : Nat) : Int).toNat)).toInt), vi ((G.2.2 (((ii + 3 : Nat) : Int).toNat)).toInt)]) (mc := 0) (ms := 0) (dL_law_11.at 6 rfl) lk_L_108 (S_lt 0 (by decide)) (S_0 nw nx g) rfl rfl (Nat.le_of_ble_eq_true rfl) rfl hB1 hB2 ?_
  refine c_X8_r (x := ((G.2.2 (((ii + 1 : Nat) : Int).toNat)).toInt)) (y := ((G.2.2 (((ii + 2 : Nat) : Int).toNat)).toInt)) (k := ((G.2.2 (((ii + 3 : Nat) : Int).toNat)).toInt)) (P := P) (j := j + 37) hv.1 hv.2.1 hv.2.2.1 hv.2.2.2.1 hv.2.2.2.2.1 hv.2.2.2.2.2.1 (fun c_1 h_1 => ?_)
  replace hv := hv.2.2.2.2.2.2 c_1 h_1
  refine sw_aload_n (dL_law_11.at 7 rfl) rfl rfl ?_
  refine sw_aload_nf (dL_law_11.at 8 rfl) rfl rfl ?_
  refine sw_iload_n (dL_law_11.at 9 rfl) rfl rfl ?_
  refine sw_iconst (dL_law_11.at 10 rfl) ?_
  refine sw_iadd (dL_law_11.at 11 rfl) ?_
  refine sw_topI (y := ((ii + 1 : Nat) : Int)) (by first | rfl | (congr 1)) ?_
  refine sw_sld (dL_law_11.at 12 rfl) hG hv.1 hv.2.1 ?_
  replace hv := hv.2.2
  refine sw_aload_nf (dL_law_11.at 13 rfl) rfl rfl ?_
  refine sw_iload_n (dL_law_11.at 14 rfl) rfl rfl ?_
  refine sw_iconst (dL_law_11.at 15 rfl) ?_
  refine sw_iadd (dL_law_11.at 16 rfl) ?_
  refine sw_topI (y := ((ii + 2 : Nat) : Int)) (by first | rfl | (congr 1)) ?_
  refine sw_sld (dL_law_11.at 17 rfl) hG hv.1 hv.2.1 ?_
  replace hv := hv.2.2
  refine sw_aload_nf (dL_law_11.at 18 rfl) rfl rfl ?_
  refine sw_iload_n (dL_law_11.at 19 rfl) rfl rfl ?_
  refine sw_iconst (dL_law_11.at 20 rfl) ?_
  refine sw_iadd (dL_law_11.at 21 rfl) ?_
  refine sw_topI (y := ((ii + 3 : Nat) : Int)) (by first | rfl | (congr 1)) ?_
  refine sw_sld (dL_law_11.at 22 rfl) hG hv.1 hv.2.1 ?_
  replace hv := hv.2.2
  refine sw_callV (B' := BL) (As := [vi ((G.2.2 (((ii + 1 : Nat) : Int).toNat)).toInt), vi ((G.2.2 (((ii + 2 : Nat) : Int).toNat)).toInt), vi ((G.2.2 (((ii + 3 : Nat) : Int).toNat)).toInt)]) (mc := 0) (ms := 0) (dL_law_11.at 23 rfl) lk_L_111 (S_lt 49 (by decide)) (S_49 nw nx g) rfl rfl (Nat.le_of_ble_eq_true rfl) rfl hB1 hB2 ?_
  refine c_X9_r (x := ((G.2.2 (((ii + 1 : Nat) : Int).toNat)).toInt)) (y := ((G.2.2 (((ii + 2 : Nat) : Int).toNat)).toInt)) (k := ((G.2.2 (((ii + 3 : Nat) : Int).toNat)).toInt)) (P := P) (T := T) (j := j + 34) hv.1 hv.2.1 hv.2.2.1 hv.2.2.2.1 hv.2.2.2.2.1 hv.2.2.2.2.2.1 hv.2.2.2.2.2.2.1 hv.2.2.2.2.2.2.2.1 (fun c_2 h_2 => ?_)
  replace hv := hv.2.2.2.2.2.2.2.2 c_2 h_2
  refine sw_icmp_same (tgt := 2308) (dL_law_11.at 24 rfl) (by decide) ?_
  exact hv

theorem cs_r {G : GG} {j nw nx gn : Nat} {g : Nat → Sh} {c : Nat → Nat → Int} {post : Option AV → AM → Prop} {BL : BB} {P : GD} {T : PT} {ln : Nat} {bo : Nat → Nat} {n : Nat} {nb : Nat → Nat} {MT : Nat} {MA : Nat} {ii : Nat} (hG : G.2.1 < 2147483648) (hB1 : BL.1 ≤ BL.2.2.1) (hB2 : BL.2.1 ≤ BL.2.2.2) (hii : ii + 6 ≤ G.2.1) (hv : INV c nw nx P T ln bo n nb MT MA) (K : ∀ c2 : Nat → Nat → Int, INV c2 nw nx P T ln bo n nb MT MA → SW G (j + 40) mL_law 2308 [some (vf 0), some (vr (0)), some (vr (49)), some (vi (((ii : Nat) : Int)))] [] (S nw nx g, 78 + gn, c2) BL post) : SW G (j + 40) mL_law 966 [some (vf 0), some (vr (0)), some (vr (49)), some (vi (((ii : Nat) : Int)))] [] (S nw nx g, 78 + gn, c) BL post := by
  have hv0 := hv
  obtain ⟨hIT, hIP, hIR, hIE, ⟨hwx, hSP, ⟨⟨hV, hC, hDn, hSi⟩, ⟨hOr, hMi, hSp, hBr, hBt⟩, ⟨hLa, hGP, hP0, hHT⟩, hMv⟩, hbo, hbl, hE, hM, hln⟩, ⟨hPR, hCR, hRR⟩, hIM⟩ := hv
  have hIM0 := hIM
  obtain ⟨⟨hMT60, hMA30, hMA0, hMf, hMs⟩, ⟨hM1, hM2, hM3, hM4⟩, hM5, hM6⟩ := hIM
  have hnw : nw = 21 ∨ nw = 35 := by omega
  have hRb := hC.1.1
  have hLn := hC.1.2
  have hLn2 : ∀ s, s < gR P → s + 1 < gN P := hC.1.2
  refine g_law_r (P := P) (T := T) hG hB1 hB2 ?_
  refine ⟨?_, ?_, ⟨?_, ?_, ⟨?_, ?_, ⟨?_, ?_, ?_, ?_, ?_, ?_, fun c_1 h_1 => ⟨?_, ?_, ⟨?_, ?_, ⟨?_, ?_, ⟨?_, ?_, ?_, ?_, ?_, ?_, ?_, ?_, fun c_2 h_2 => ?_⟩⟩⟩⟩⟩⟩⟩⟩
  all_goals first | assumption | omega | exact i32rng _ | exact ML_row hM (fun a ha hb => h_1 a (by omega)) | exact RR_row hRR (fun a ha hb => h_1 a (by omega)) | exact K _ (INV_SD (INV_C0 hv0 (fun a ha hb => h_1 a (by omega))) h_2.1 h_2.2)

set_option maxHeartbeats 2000000 in
set_option maxRecDepth 20000 in
theorem g_law_p {G : GG} {j nw nx gn : Nat} {g : Nat → Sh} {c : Nat → Nat → Int} {post : Option AV → AM → Prop} {BL : BB} {P : GD} {T : PT} {ii : Nat} (hG : G.2.1 < 2147483648) (hB1 : BL.1 ≤ BL.2.2.1) (hB2 : BL.2.1 ≤ BL.2.2.2)  (hv : (0 ≤ ((ii + 1 : Nat) : Int)) ∧ (((ii + 1 : Nat) : Int) < (G.2.1 : Int)) ∧ ((0 ≤ ((ii + 2 : Nat) : Int)) ∧ (((ii + 2 : Nat) : Int) < (G.2.1 : Int)) ∧ ((0 ≤ ((ii + 3 : Nat) : Int)) ∧ (((ii + 3 : Nat) : Int) < (G.2.1 : Int)) ∧ ((nw = 21 ∨ nw = 35) ∧ (EL c nw P) ∧ (GV P) ∧ (HT P T) ∧ (PR P T c) ∧ (-2147483648 ≤ ((G.2.2 (((ii + 1 : Nat) : Int).toNat)).toInt) ∧ ((G.2.2 (((ii + 1 : Nat) : Int).toNat)).toInt) < 2147483648) ∧ (-2147483648 ≤ ((G.2.2 (((ii + 2 : Nat) : Int).toNat)).toInt) ∧ ((G.2.2 (((ii + 2 : Nat) : Int).toNat)).toInt) < 2147483648) ∧ (-2147483648 ≤ ((G.2.2 (((ii + 3 : Nat) : Int).toNat)).toInt) ∧ ((G.2.2 (((ii + 3 : Nat) : Int).toNat)).toInt) < 2147483648) ∧ (∀ c_1 : Nat → Nat → Int, ((∀ a, a ≠ 5 → a ≠ 6 → c_1 a = c a) ∧ PR P T c_1) → (0 ≤ ((ii + 1 : Nat) : Int)) ∧ (((ii + 1 : Nat) : Int) < (G.2.1 : Int)) ∧ ((0 ≤ ((ii + 2 : Nat) : Int)) ∧ (((ii + 2 : Nat) : Int) < (G.2.1 : Int)) ∧ ((0 ≤ ((ii + 3 : Nat) : Int)) ∧ (((ii + 3 : Nat) : Int) < (G.2.1 : Int)) ∧ ((ML c_1 P) ∧ (GV P) ∧ (GC P) ∧ (GP P T) ∧ (RR P T c_1) ∧ (-2147483648 ≤ ((G.2.2 (((ii + 1 : Nat) : Int).toNat)).toInt) ∧ ((G.2.2 (((ii + 1 : Nat) : Int).toNat)).toInt) < 2147483648) ∧ (-2147483648 ≤ ((G.2.2 (((ii + 2 : Nat) : Int).toNat)).toInt) ∧ ((G.2.2 (((ii + 2 : Nat) : Int).toNat)).toInt) < 2147483648) ∧ (-2147483648 ≤ ((G.2.2 (((ii + 3 : Nat) : Int).toNat)).toInt) ∧ ((G.2.2 (((ii + 3 : Nat) : Int).toNat)).toInt) < 2147483648) ∧ (∀ c_2 : Nat → Nat → Int, (SD c_1 c_2 ∧ RR P T c_2) → SW G (j + 40) mL_law 2308 [some (vf 0), some (vr (0)), some (vr (49)), some (vi (((ii : Nat) : Int)))] [] (S nw nx g, 78 + gn, c_2) BL post))))))))) :
    SW G (j + 40) mL_law 1009 [some (vf 0), some (vr (0)), some (vr (49)), some (vi (((ii : Nat) : Int)))] [] (S nw nx g, 78 + gn, c) BL post := by
  refine sw_aload_n (dL_law_11.at 27 rfl) rfl rfl ?_
  refine sw_aload_nf (dL_law_11.at 28 rfl) rfl rfl ?_
  refine sw_iload_n (dL_law_11.at 29 rfl) rfl rfl ?_
  refine sw_iconst (dL_law_11.at 30 rfl) ?_
  refine sw_iadd (dL_law_11.at 31 rfl) ?_
  refine sw_topI (y := ((ii + 1 : Nat) : Int)) (by first | rfl | (congr 1)) ?_
  refine sw_sld (dL_law_11.at 32 rfl) hG hv.1 hv.2.1 ?_
  replace hv := hv.2.2
  refine sw_aload_nf (dL_law_11.at 33 rfl) rfl rfl ?_
  refine sw_iload_n (dL_law_11.at 34 rfl) rfl rfl ?_
  refine sw_iconst (dL_law_11.at 35 rfl) ?_
  refine sw_iadd (dL_law_11.at 36 rfl) ?_
  refine sw_topI (y := ((ii + 2 : Nat) : Int)) (by first | rfl | (congr 1)) ?_
  refine sw_sld (dL_law_11.at 37 rfl) hG hv.1 hv.2.1 ?_
  replace hv := hv.2.2
  refine sw_aload_nf (dL_law_11.at 38 rfl) rfl rfl ?_
  refine sw_iload_n (dL_law_11.at 39 rfl) rfl rfl ?_
  refine sw_iconst (dL_law_11.at 40 rfl) ?_
  refine sw_iadd (dL_law_11.at 41 rfl) ?_
  refine sw_topI (y := ((ii + 3 : Nat) : Int)) (by first | rfl | (congr 1)) ?_
  refine sw_sld (dL_law_11.at 42 rfl) hG hv.1 hv.2.1 ?_
  replace hv := hv.2.2
  refine sw_callV (B' := BL) (As := [vi ((G.2.2 (((ii + 1 : Nat) : Int).toNat)).toInt), vi ((G.2.2 (((ii + 2 : Nat) : Int).toNat)).toInt), vi ((G.2.2 (((ii + 3 : Nat) : Int).toNat)).toInt)]) (mc := 0) (ms := 0) (dL_law_11.at 43 rfl) lk_L_112 (S_lt 0 (by decide)) (S_0 nw nx g) rfl rfl (Nat.le_of_ble_eq_true rfl) rfl hB1 hB2 ?_
  refine c_X8_p (x := ((G.2.2 (((ii + 1 : Nat) : Int).toNat)).toInt)) (y := ((G.2.2 (((ii + 2 : Nat) : Int).toNat)).toInt)) (k := ((G.2.2 (((ii + 3 : Nat) : Int).toNat)).toInt)) (P := P) (T := T) (j := j + 34) hv.1 hv.2.1 hv.2.2.1 hv.2.2.2.1 hv.2.2.2.2.1 hv.2.2.2.2.2.1 hv.2.2.2.2.2.2.1 hv.2.2.2.2.2.2.2.1 (fun c_1 h_1 => ?_)
  replace hv := hv.2.2.2.2.2.2.2.2 c_1 h_1
  refine sw_aload_n (dL_law_11.at 44 rfl) rfl rfl ?_
  refine sw_aload_nf (dL_law_11.at 45 rfl) rfl rfl ?_
  refine sw_iload_n (dL_law_11.at 46 rfl) rfl rfl ?_
  refine sw_iconst (dL_law_11.at 47 rfl) ?_
  refine sw_iadd (dL_law_11.at 48 rfl) ?_
  refine sw_topI (y := ((ii + 1 : Nat) : Int)) (by first | rfl | (congr 1)) ?_
  refine sw_sld (dL_law_11.at 49 rfl) hG hv.1 hv.2.1 ?_
  replace hv := hv.2.2
  refine sw_aload_nf (dL_law_12.at 0 rfl) rfl rfl ?_
  refine sw_iload_n (dL_law_12.at 1 rfl) rfl rfl ?_
  refine sw_iconst (dL_law_12.at 2 rfl) ?_
  refine sw_iadd (dL_law_12.at 3 rfl) ?_
  refine sw_topI (y := ((ii + 2 : Nat) : Int)) (by first | rfl | (congr 1)) ?_
  refine sw_sld (dL_law_12.at 4 rfl) hG hv.1 hv.2.1 ?_
  replace hv := hv.2.2
  refine sw_aload_nf (dL_law_12.at 5 rfl) rfl rfl ?_
  refine sw_iload_n (dL_law_12.at 6 rfl) rfl rfl ?_
  refine sw_iconst (dL_law_12.at 7 rfl) ?_
  refine sw_iadd (dL_law_12.at 8 rfl) ?_
  refine sw_topI (y := ((ii + 3 : Nat) : Int)) (by first | rfl | (congr 1)) ?_
  refine sw_sld (dL_law_12.at 9 rfl) hG hv.1 hv.2.1 ?_
  replace hv := hv.2.2
  refine sw_callV (B' := BL) (As := [vi ((G.2.2 (((ii + 1 : Nat) : Int).toNat)).toInt), vi ((G.2.2 (((ii + 2 : Nat) : Int).toNat)).toInt), vi ((G.2.2 (((ii + 3 : Nat) : Int).toNat)).toInt)]) (mc := 0) (ms := 0) (dL_law_12.at 10 rfl) lk_L_115 (S_lt 49 (by decide)) (S_49 nw nx g) rfl rfl (Nat.le_of_ble_eq_true rfl) rfl hB1 hB2 ?_
  refine c_X9_p (x := ((G.2.2 (((ii + 1 : Nat) : Int).toNat)).toInt)) (y := ((G.2.2 (((ii + 2 : Nat) : Int).toNat)).toInt)) (k := ((G.2.2 (((ii + 3 : Nat) : Int).toNat)).toInt)) (P := P) (T := T) (j := j + 34) hv.1 hv.2.1 hv.2.2.1 hv.2.2.2.1 hv.2.2.2.2.1 hv.2.2.2.2.2.1 hv.2.2.2.2.2.2.1 hv.2.2.2.2.2.2.2.1 (fun c_2 h_2 => ?_)
  replace hv := hv.2.2.2.2.2.2.2.2 c_2 h_2
  refine sw_icmp_same (tgt := 2308) (dL_law_12.at 11 rfl) (by decide) ?_
  exact hv

theorem cs_p {G : GG} {j nw nx gn : Nat} {g : Nat → Sh} {c : Nat → Nat → Int} {post : Option AV → AM → Prop} {BL : BB} {P : GD} {T : PT} {ln : Nat} {bo : Nat → Nat} {n : Nat} {nb : Nat → Nat} {MT : Nat} {MA : Nat} {ii : Nat} (hG : G.2.1 < 2147483648) (hB1 : BL.1 ≤ BL.2.2.1) (hB2 : BL.2.1 ≤ BL.2.2.2) (hii : ii + 6 ≤ G.2.1) (hv : INV c nw nx P T ln bo n nb MT MA) (K : ∀ c2 : Nat → Nat → Int, INV c2 nw nx P T ln bo n nb MT MA → SW G (j + 40) mL_law 2308 [some (vf 0), some (vr (0)), some (vr (49)), some (vi (((ii : Nat) : Int)))] [] (S nw nx g, 78 + gn, c2) BL post) : SW G (j + 40) mL_law 1009 [some (vf 0), some (vr (0)), some (vr (49)), some (vi (((ii : Nat) : Int)))] [] (S nw nx g, 78 + gn, c) BL post := by
  have hv0 := hv
  obtain ⟨hIT, hIP, hIR, hIE, ⟨hwx, hSP, ⟨⟨hV, hC, hDn, hSi⟩, ⟨hOr, hMi, hSp, hBr, hBt⟩, ⟨hLa, hGP, hP0, hHT⟩, hMv⟩, hbo, hbl, hE, hM, hln⟩, ⟨hPR, hCR, hRR⟩, hIM⟩ := hv
  have hIM0 := hIM
  obtain ⟨⟨hMT60, hMA30, hMA0, hMf, hMs⟩, ⟨hM1, hM2, hM3, hM4⟩, hM5, hM6⟩ := hIM
  have hnw : nw = 21 ∨ nw = 35 := by omega
  have hRb := hC.1.1
  have hLn := hC.1.2
  have hLn2 : ∀ s, s < gR P → s + 1 < gN P := hC.1.2
  refine g_law_p (P := P) (T := T) hG hB1 hB2 ?_
  refine ⟨?_, ?_, ⟨?_, ?_, ⟨?_, ?_, ⟨?_, ?_, ?_, ?_, ?_, ?_, ?_, ?_, fun c_1 h_1 => ⟨?_, ?_, ⟨?_, ?_, ⟨?_, ?_, ⟨?_, ?_, ?_, ?_, ?_, ?_, ?_, ?_, fun c_2 h_2 => ?_⟩⟩⟩⟩⟩⟩⟩⟩
  all_goals first | assumption | omega | exact i32rng _ | exact ML_row hM (fun a ha hb => h_1.1 a (by omega) (by omega)) | exact RR_row hRR (fun a ha hb => h_1.1 a (by omega) (by omega)) | exact K _ (INV_SD (INV_CK hv0 (fun a ha hb => h_1.1 a (by omega) (by omega)) h_1.2 (CR_same hCR (h_1.1 7 (by omega) (by omega)) (h_1.1 8 (by omega) (by omega)))) h_2.1 h_2.2)

set_option maxHeartbeats 2000000 in
set_option maxRecDepth 20000 in
theorem g_law_degree {G : GG} {j nw nx gn : Nat} {g : Nat → Sh} {c : Nat → Nat → Int} {post : Option AV → AM → Prop} {BL : BB} {P : GD} {T : PT} {ii : Nat} (hG : G.2.1 < 2147483648) (hB1 : BL.1 ≤ BL.2.2.1) (hB2 : BL.2.1 ≤ BL.2.2.2)  (hv : (0 ≤ ((ii + 1 : Nat) : Int)) ∧ (((ii + 1 : Nat) : Int) < (G.2.1 : Int)) ∧ ((0 ≤ ((ii + 2 : Nat) : Int)) ∧ (((ii + 2 : Nat) : Int) < (G.2.1 : Int)) ∧ ((nw = 21 ∨ nw = 35) ∧ (EL c nw P) ∧ (GV P) ∧ (HT P T) ∧ (PR P T c) ∧ (-2147483648 ≤ ((G.2.2 (((ii + 1 : Nat) : Int).toNat)).toInt) ∧ ((G.2.2 (((ii + 1 : Nat) : Int).toNat)).toInt) < 2147483648) ∧ (-2147483648 ≤ ((G.2.2 (((ii + 2 : Nat) : Int).toNat)).toInt) ∧ ((G.2.2 (((ii + 2 : Nat) : Int).toNat)).toInt) < 2147483648) ∧ (∀ c_1 : Nat → Nat → Int, ((∀ a, a ≠ 5 → a ≠ 6 → c_1 a = c a) ∧ PR P T c_1) → (0 ≤ ((ii + 1 : Nat) : Int)) ∧ (((ii + 1 : Nat) : Int) < (G.2.1 : Int)) ∧ ((0 ≤ ((ii + 2 : Nat) : Int)) ∧ (((ii + 2 : Nat) : Int) < (G.2.1 : Int)) ∧ ((ML c_1 P) ∧ (GV P) ∧ (GC P) ∧ (GP P T) ∧ (RR P T c_1) ∧ (HT P T) ∧ (-2147483648 ≤ ((G.2.2 (((ii + 1 : Nat) : Int).toNat)).toInt) ∧ ((G.2.2 (((ii + 1 : Nat) : Int).toNat)).toInt) < 2147483648) ∧ (-2147483648 ≤ ((G.2.2 (((ii + 2 : Nat) : Int).toNat)).toInt) ∧ ((G.2.2 (((ii + 2 : Nat) : Int).toNat)).toInt) < 2147483648) ∧ (∀ c_2 : Nat → Nat → Int, (SD c_1 c_2 ∧ RR P T c_2) → SW G (j + 40) mL_law 2308 [some (vf 0), some (vr (0)), some (vr (49)), some (vi (((ii : Nat) : Int)))] [] (S nw nx g, 78 + gn, c_2) BL post))))))) :
    SW G (j + 40) mL_law 1052 [some (vf 0), some (vr (0)), some (vr (49)), some (vi (((ii : Nat) : Int)))] [] (S nw nx g, 78 + gn, c) BL post := by
  refine sw_aload_n (dL_law_12.at 14 rfl) rfl rfl ?_
  refine sw_aload_nf (dL_law_12.at 15 rfl) rfl rfl ?_
  refine sw_iload_n (dL_law_12.at 16 rfl) rfl rfl ?_
  refine sw_iconst (dL_law_12.at 17 rfl) ?_
  refine sw_iadd (dL_law_12.at 18 rfl) ?_
  refine sw_topI (y := ((ii + 1 : Nat) : Int)) (by first | rfl | (congr 1)) ?_
  refine sw_sld (dL_law_12.at 19 rfl) hG hv.1 hv.2.1 ?_
  replace hv := hv.2.2
  refine sw_aload_nf (dL_law_12.at 20 rfl) rfl rfl ?_
  refine sw_iload_n (dL_law_12.at 21 rfl) rfl rfl ?_
  refine sw_iconst (dL_law_12.at 22 rfl) ?_
  refine sw_iadd (dL_law_12.at 23 rfl) ?_
  refine sw_topI (y := ((ii + 2 : Nat) : Int)) (by first | rfl | (congr 1)) ?_
  refine sw_sld (dL_law_12.at 24 rfl) hG hv.1 hv.2.1 ?_
  replace hv := hv.2.2
  refine sw_callV (B' := BL) (As := [vi ((G.2.2 (((ii + 1 : Nat) : Int).toNat)).toInt), vi ((G.2.2 (((ii + 2 : Nat) : Int).toNat)).toInt)]) (mc := 0) (ms := 0) (dL_law_12.at 25 rfl) lk_L_116 (S_lt 0 (by decide)) (S_0 nw nx g) rfl rfl (Nat.le_of_ble_eq_true rfl) rfl hB1 hB2 ?_
  refine c_X8_degree (x := ((G.2.2 (((ii + 1 : Nat) : Int).toNat)).toInt)) (y := ((G.2.2 (((ii + 2 : Nat) : Int).toNat)).toInt)) (P := P) (T := T) (j := j + 34) hv.1 hv.2.1 hv.2.2.1 hv.2.2.2.1 hv.2.2.2.2.1 hv.2.2.2.2.2.1 hv.2.2.2.2.2.2.1 (fun c_1 h_1 => ?_)
  replace hv := hv.2.2.2.2.2.2.2 c_1 h_1
  refine sw_aload_n (dL_law_12.at 26 rfl) rfl rfl ?_
  refine sw_aload_nf (dL_law_12.at 27 rfl) rfl rfl ?_
  refine sw_iload_n (dL_law_12.at 28 rfl) rfl rfl ?_
  refine sw_iconst (dL_law_12.at 29 rfl) ?_
  refine sw_iadd (dL_law_12.at 30 rfl) ?_
  refine sw_topI (y := ((ii + 1 : Nat) : Int)) (by first | rfl | (congr 1)) ?_
  refine sw_sld (dL_law_12.at 31 rfl) hG hv.1 hv.2.1 ?_
  replace hv := hv.2.2
  refine sw_aload_nf (dL_law_12.at 32 rfl) rfl rfl ?_
  refine sw_iload_n (dL_law_12.at 33 rfl) rfl rfl ?_
  refine sw_iconst (dL_law_12.at 34 rfl) ?_
  refine sw_iadd (dL_law_12.at 35 rfl) ?_
  refine sw_topI (y := ((ii + 2 : Nat) : Int)) (by first | rfl | (congr 1)) ?_
  refine sw_sld (dL_law_12.at 36 rfl) hG hv.1 hv.2.1 ?_
  replace hv := hv.2.2
  refine sw_callV (B' := BL) (As := [vi ((G.2.2 (((ii + 1 : Nat) : Int).toNat)).toInt), vi ((G.2.2 (((ii + 2 : Nat) : Int).toNat)).toInt)]) (mc := 0) (ms := 0) (dL_law_12.at 37 rfl) lk_L_119 (S_lt 49 (by decide)) (S_49 nw nx g) rfl rfl (Nat.le_of_ble_eq_true rfl) rfl hB1 hB2 ?_
  refine c_X9_degree (x := ((G.2.2 (((ii + 1 : Nat) : Int).toNat)).toInt)) (y := ((G.2.2 (((ii + 2 : Nat) : Int).toNat)).toInt)) (P := P) (T := T) (j := j + 34) hv.1 hv.2.1 hv.2.2.1 hv.2.2.2.1 hv.2.2.2.2.1 hv.2.2.2.2.2.1 hv.2.2.2.2.2.2.1 hv.2.2.2.2.2.2.2.1 (fun c_2 h_2 => ?_)
  replace hv := hv.2.2.2.2.2.2.2.2 c_2 h_2
  refine sw_icmp_same (tgt := 2308) (dL_law_12.at 38 rfl) (by decide) ?_
  exact hv

theorem cs_degree {G : GG} {j nw nx gn : Nat} {g : Nat → Sh} {c : Nat → Nat → Int} {post : Option AV → AM → Prop} {BL : BB} {P : GD} {T : PT} {ln : Nat} {bo : Nat → Nat} {n : Nat} {nb : Nat → Nat} {MT : Nat} {MA : Nat} {ii : Nat} (hG : G.2.1 < 2147483648) (hB1 : BL.1 ≤ BL.2.2.1) (hB2 : BL.2.1 ≤ BL.2.2.2) (hii : ii + 6 ≤ G.2.1) (hv : INV c nw nx P T ln bo n nb MT MA) (K : ∀ c2 : Nat → Nat → Int, INV c2 nw nx P T ln bo n nb MT MA → SW G (j + 40) mL_law 2308 [some (vf 0), some (vr (0)), some (vr (49)), some (vi (((ii : Nat) : Int)))] [] (S nw nx g, 78 + gn, c2) BL post) : SW G (j + 40) mL_law 1052 [some (vf 0), some (vr (0)), some (vr (49)), some (vi (((ii : Nat) : Int)))] [] (S nw nx g, 78 + gn, c) BL post := by
  have hv0 := hv
  obtain ⟨hIT, hIP, hIR, hIE, ⟨hwx, hSP, ⟨⟨hV, hC, hDn, hSi⟩, ⟨hOr, hMi, hSp, hBr, hBt⟩, ⟨hLa, hGP, hP0, hHT⟩, hMv⟩, hbo, hbl, hE, hM, hln⟩, ⟨hPR, hCR, hRR⟩, hIM⟩ := hv
  have hIM0 := hIM
  obtain ⟨⟨hMT60, hMA30, hMA0, hMf, hMs⟩, ⟨hM1, hM2, hM3, hM4⟩, hM5, hM6⟩ := hIM
  have hnw : nw = 21 ∨ nw = 35 := by omega
  have hRb := hC.1.1
  have hLn := hC.1.2
  have hLn2 : ∀ s, s < gR P → s + 1 < gN P := hC.1.2
  refine g_law_degree (P := P) (T := T) hG hB1 hB2 ?_
  refine ⟨?_, ?_, ⟨?_, ?_, ⟨?_, ?_, ?_, ?_, ?_, ?_, ?_, fun c_1 h_1 => ⟨?_, ?_, ⟨?_, ?_, ⟨?_, ?_, ?_, ?_, ?_, ?_, ?_, ?_, fun c_2 h_2 => ?_⟩⟩⟩⟩⟩⟩
  all_goals first | assumption | omega | exact i32rng _ | exact ML_row hM (fun a ha hb => h_1.1 a (by omega) (by omega)) | exact RR_row hRR (fun a ha hb => h_1.1 a (by omega) (by omega)) | exact K _ (INV_SD (INV_CK hv0 (fun a ha hb => h_1.1 a (by omega) (by omega)) h_1.2 (CR_same hCR (h_1.1 7 (by omega) (by omega)) (h_1.1 8 (by omega) (by omega)))) h_2.1 h_2.2)

set_option maxHeartbeats 2000000 in
set_option maxRecDepth 20000 in
theorem g_law_mu {G : GG} {j nw nx gn : Nat} {g : Nat → Sh} {c : Nat → Nat → Int} {post : Option AV → AM → Prop} {BL : BB} {P : GD} {T : PT} {ii : Nat} (hG : G.2.1 < 2147483648) (hB1 : BL.1 ≤ BL.2.2.1) (hB2 : BL.2.1 ≤ BL.2.2.2)  (hv : (0 ≤ ((ii + 1 : Nat) : Int)) ∧ (((ii + 1 : Nat) : Int) < (G.2.1 : Int)) ∧ ((0 ≤ ((ii + 2 : Nat) : Int)) ∧ (((ii + 2 : Nat) : Int) < (G.2.1 : Int)) ∧ ((nw = 21 ∨ nw = 35) ∧ (EL c nw P) ∧ (GV P) ∧ (HT P T) ∧ (PR P T c) ∧ (-2147483648 ≤ ((G.2.2 (((ii + 1 : Nat) : Int).toNat)).toInt) ∧ ((G.2.2 (((ii + 1 : Nat) : Int).toNat)).toInt) < 2147483648) ∧ (-2147483648 ≤ ((G.2.2 (((ii + 2 : Nat) : Int).toNat)).toInt) ∧ ((G.2.2 (((ii + 2 : Nat) : Int).toNat)).toInt) < 2147483648) ∧ (∀ c_1 : Nat → Nat → Int, ((∀ a, a ≠ 5 → a ≠ 6 → c_1 a = c a) ∧ PR P T c_1) → (0 ≤ ((ii + 1 : Nat) : Int)) ∧ (((ii + 1 : Nat) : Int) < (G.2.1 : Int)) ∧ ((0 ≤ ((ii + 2 : Nat) : Int)) ∧ (((ii + 2 : Nat) : Int) < (G.2.1 : Int)) ∧ ((ML c_1 P) ∧ (GV P) ∧ (GC P) ∧ (GP P T) ∧ (RR P T c_1) ∧ (-2147483648 ≤ ((G.2.2 (((ii + 1 : Nat) : Int).toNat)).toInt) ∧ ((G.2.2 (((ii + 1 : Nat) : Int).toNat)).toInt) < 2147483648) ∧ (-2147483648 ≤ ((G.2.2 (((ii + 2 : Nat) : Int).toNat)).toInt) ∧ ((G.2.2 (((ii + 2 : Nat) : Int).toNat)).toInt) < 2147483648) ∧ (∀ c_2 : Nat → Nat → Int, (SD c_1 c_2 ∧ RR P T c_2) → SW G (j + 40) mL_law 2308 [some (vf 0), some (vr (0)), some (vr (49)), some (vi (((ii : Nat) : Int)))] [] (S nw nx g, 78 + gn, c_2) BL post))))))) :
    SW G (j + 40) mL_law 1085 [some (vf 0), some (vr (0)), some (vr (49)), some (vi (((ii : Nat) : Int)))] [] (S nw nx g, 78 + gn, c) BL post := by
  refine sw_aload_n (dL_law_12.at 41 rfl) rfl rfl ?_
  refine sw_aload_nf (dL_law_12.at 42 rfl) rfl rfl ?_
  refine sw_iload_n (dL_law_12.at 43 rfl) rfl rfl ?_
  refine sw_iconst (dL_law_12.at 44 rfl) ?_
  refine sw_iadd (dL_law_12.at 45 rfl) ?_
  refine sw_topI (y := ((ii + 1 : Nat) : Int)) (by first | rfl | (congr 1)) ?_
  refine sw_sld (dL_law_12.at 46 rfl) hG hv.1 hv.2.1 ?_
  replace hv := hv.2.2
  refine sw_aload_nf (dL_law_12.at 47 rfl) rfl rfl ?_
  refine sw_iload_n (dL_law_12.at 48 rfl) rfl rfl ?_
  refine sw_iconst (dL_law_12.at 49 rfl) ?_
  refine sw_iadd (dL_law_13.at 0 rfl) ?_
  refine sw_topI (y := ((ii + 2 : Nat) : Int)) (by first | rfl | (congr 1)) ?_
  refine sw_sld (dL_law_13.at 1 rfl) hG hv.1 hv.2.1 ?_
  replace hv := hv.2.2
  refine sw_callV (B' := BL) (As := [vi ((G.2.2 (((ii + 1 : Nat) : Int).toNat)).toInt), vi ((G.2.2 (((ii + 2 : Nat) : Int).toNat)).toInt)]) (mc := 0) (ms := 0) (dL_law_13.at 2 rfl) lk_L_120 (S_lt 0 (by decide)) (S_0 nw nx g) rfl rfl (Nat.le_of_ble_eq_true rfl) rfl hB1 hB2 ?_
  refine c_X8_mu (x := ((G.2.2 (((ii + 1 : Nat) : Int).toNat)).toInt)) (y := ((G.2.2 (((ii + 2 : Nat) : Int).toNat)).toInt)) (P := P) (T := T) (j := j + 34) hv.1 hv.2.1 hv.2.2.1 hv.2.2.2.1 hv.2.2.2.2.1 hv.2.2.2.2.2.1 hv.2.2.2.2.2.2.1 (fun c_1 h_1 => ?_)
  replace hv := hv.2.2.2.2.2.2.2 c_1 h_1
  refine sw_aload_n (dL_law_13.at 3 rfl) rfl rfl ?_
  refine sw_aload_nf (dL_law_13.at 4 rfl) rfl rfl ?_
  refine sw_iload_n (dL_law_13.at 5 rfl) rfl rfl ?_
  refine sw_iconst (dL_law_13.at 6 rfl) ?_
  refine sw_iadd (dL_law_13.at 7 rfl) ?_
  refine sw_topI (y := ((ii + 1 : Nat) : Int)) (by first | rfl | (congr 1)) ?_
  refine sw_sld (dL_law_13.at 8 rfl) hG hv.1 hv.2.1 ?_
  replace hv := hv.2.2
  refine sw_aload_nf (dL_law_13.at 9 rfl) rfl rfl ?_
  refine sw_iload_n (dL_law_13.at 10 rfl) rfl rfl ?_
  refine sw_iconst (dL_law_13.at 11 rfl) ?_
  refine sw_iadd (dL_law_13.at 12 rfl) ?_
  refine sw_topI (y := ((ii + 2 : Nat) : Int)) (by first | rfl | (congr 1)) ?_
  refine sw_sld (dL_law_13.at 13 rfl) hG hv.1 hv.2.1 ?_
  replace hv := hv.2.2
  refine sw_callV (B' := BL) (As := [vi ((G.2.2 (((ii + 1 : Nat) : Int).toNat)).toInt), vi ((G.2.2 (((ii + 2 : Nat) : Int).toNat)).toInt)]) (mc := 0) (ms := 0) (dL_law_13.at 14 rfl) lk_L_123 (S_lt 49 (by decide)) (S_49 nw nx g) rfl rfl (Nat.le_of_ble_eq_true rfl) rfl hB1 hB2 ?_
  refine c_X9_mu (x := ((G.2.2 (((ii + 1 : Nat) : Int).toNat)).toInt)) (y := ((G.2.2 (((ii + 2 : Nat) : Int).toNat)).toInt)) (P := P) (T := T) (j := j + 34) hv.1 hv.2.1 hv.2.2.1 hv.2.2.2.1 hv.2.2.2.2.1 hv.2.2.2.2.2.1 hv.2.2.2.2.2.2.1 (fun c_2 h_2 => ?_)
  replace hv := hv.2.2.2.2.2.2.2 c_2 h_2
  refine sw_icmp_same (tgt := 2308) (dL_law_13.at 15 rfl) (by decide) ?_
  exact hv

theorem cs_mu {G : GG} {j nw nx gn : Nat} {g : Nat → Sh} {c : Nat → Nat → Int} {post : Option AV → AM → Prop} {BL : BB} {P : GD} {T : PT} {ln : Nat} {bo : Nat → Nat} {n : Nat} {nb : Nat → Nat} {MT : Nat} {MA : Nat} {ii : Nat} (hG : G.2.1 < 2147483648) (hB1 : BL.1 ≤ BL.2.2.1) (hB2 : BL.2.1 ≤ BL.2.2.2) (hii : ii + 6 ≤ G.2.1) (hv : INV c nw nx P T ln bo n nb MT MA) (K : ∀ c2 : Nat → Nat → Int, INV c2 nw nx P T ln bo n nb MT MA → SW G (j + 40) mL_law 2308 [some (vf 0), some (vr (0)), some (vr (49)), some (vi (((ii : Nat) : Int)))] [] (S nw nx g, 78 + gn, c2) BL post) : SW G (j + 40) mL_law 1085 [some (vf 0), some (vr (0)), some (vr (49)), some (vi (((ii : Nat) : Int)))] [] (S nw nx g, 78 + gn, c) BL post := by
  have hv0 := hv
  obtain ⟨hIT, hIP, hIR, hIE, ⟨hwx, hSP, ⟨⟨hV, hC, hDn, hSi⟩, ⟨hOr, hMi, hSp, hBr, hBt⟩, ⟨hLa, hGP, hP0, hHT⟩, hMv⟩, hbo, hbl, hE, hM, hln⟩, ⟨hPR, hCR, hRR⟩, hIM⟩ := hv
  have hIM0 := hIM
  obtain ⟨⟨hMT60, hMA30, hMA0, hMf, hMs⟩, ⟨hM1, hM2, hM3, hM4⟩, hM5, hM6⟩ := hIM
  have hnw : nw = 21 ∨ nw = 35 := by omega
  have hRb := hC.1.1
  have hLn := hC.1.2
  have hLn2 : ∀ s, s < gR P → s + 1 < gN P := hC.1.2
  refine g_law_mu (P := P) (T := T) hG hB1 hB2 ?_
  refine ⟨?_, ?_, ⟨?_, ?_, ⟨?_, ?_, ?_, ?_, ?_, ?_, ?_, fun c_1 h_1 => ⟨?_, ?_, ⟨?_, ?_, ⟨?_, ?_, ?_, ?_, ?_, ?_, ?_, fun c_2 h_2 => ?_⟩⟩⟩⟩⟩⟩
  all_goals first | assumption | omega | exact i32rng _ | exact ML_row hM (fun a ha hb => h_1.1 a (by omega) (by omega)) | exact RR_row hRR (fun a ha hb => h_1.1 a (by omega) (by omega)) | exact K _ (INV_SD (INV_CK hv0 (fun a ha hb => h_1.1 a (by omega) (by omega)) h_1.2 (CR_same hCR (h_1.1 7 (by omega) (by omega)) (h_1.1 8 (by omega) (by omega)))) h_2.1 h_2.2)

set_option maxHeartbeats 2000000 in
set_option maxRecDepth 20000 in
theorem g_law_at {G : GG} {j nw nx gn : Nat} {g : Nat → Sh} {c : Nat → Nat → Int} {post : Option AV → AM → Prop} {BL : BB} {P : GD} {T : PT} {ii : Nat} (hG : G.2.1 < 2147483648) (hB1 : BL.1 ≤ BL.2.2.1) (hB2 : BL.2.1 ≤ BL.2.2.2)  (hv : (0 ≤ ((ii + 1 : Nat) : Int)) ∧ (((ii + 1 : Nat) : Int) < (G.2.1 : Int)) ∧ ((0 ≤ ((ii + 2 : Nat) : Int)) ∧ (((ii + 2 : Nat) : Int) < (G.2.1 : Int)) ∧ ((0 ≤ ((ii + 3 : Nat) : Int)) ∧ (((ii + 3 : Nat) : Int) < (G.2.1 : Int)) ∧ ((nw = 21 ∨ nw = 35) ∧ (EL c nw P) ∧ (GV P) ∧ (HT P T) ∧ (PR P T c) ∧ (-2147483648 ≤ ((G.2.2 (((ii + 1 : Nat) : Int).toNat)).toInt) ∧ ((G.2.2 (((ii + 1 : Nat) : Int).toNat)).toInt) < 2147483648) ∧ (-2147483648 ≤ ((G.2.2 (((ii + 2 : Nat) : Int).toNat)).toInt) ∧ ((G.2.2 (((ii + 2 : Nat) : Int).toNat)).toInt) < 2147483648) ∧ (-2147483648 ≤ ((G.2.2 (((ii + 3 : Nat) : Int).toNat)).toInt) ∧ ((G.2.2 (((ii + 3 : Nat) : Int).toNat)).toInt) < 2147483648) ∧ (∀ c_1 : Nat → Nat → Int, ((∀ a, a ≠ 5 → a ≠ 6 → c_1 a = c a) ∧ PR P T c_1) → (0 ≤ ((ii + 1 : Nat) : Int)) ∧ (((ii + 1 : Nat) : Int) < (G.2.1 : Int)) ∧ ((0 ≤ ((ii + 2 : Nat) : Int)) ∧ (((ii + 2 : Nat) : Int) < (G.2.1 : Int)) ∧ ((0 ≤ ((ii + 3 : Nat) : Int)) ∧ (((ii + 3 : Nat) : Int) < (G.2.1 : Int)) ∧ ((ML c_1 P) ∧ (GV P) ∧ (GC P) ∧ (GP P T) ∧ (RR P T c_1) ∧ (-2147483648 ≤ ((G.2.2 (((ii + 1 : Nat) : Int).toNat)).toInt) ∧ ((G.2.2 (((ii + 1 : Nat) : Int).toNat)).toInt) < 2147483648) ∧ (-2147483648 ≤ ((G.2.2 (((ii + 2 : Nat) : Int).toNat)).toInt) ∧ ((G.2.2 (((ii + 2 : Nat) : Int).toNat)).toInt) < 2147483648) ∧ (-2147483648 ≤ ((G.2.2 (((ii + 3 : Nat) : Int).toNat)).toInt) ∧ ((G.2.2 (((ii + 3 : Nat) : Int).toNat)).toInt) < 2147483648) ∧ (∀ c_2 : Nat → Nat → Int, (SD c_1 c_2 ∧ RR P T c_2) → SW G (j + 40) mL_law 2308 [some (vf 0), some (vr (0)), some (vr (49)), some (vi (((ii : Nat) : Int)))] [] (S nw nx g, 78 + gn, c_2) BL post))))))))) :
    SW G (j + 40) mL_law 1118 [some (vf 0), some (vr (0)), some (vr (49)), some (vi (((ii : Nat) : Int)))] [] (S nw nx g, 78 + gn, c) BL post := by
  refine sw_aload_n (dL_law_13.at 18 rfl) rfl rfl ?_
  refine sw_aload_nf (dL_law_13.at 19 rfl) rfl rfl ?_
  refine sw_iload_n (dL_law_13.at 20 rfl) rfl rfl ?_
  refine sw_iconst (dL_law_13.at 21 rfl) ?_
  refine sw_iadd (dL_law_13.at 22 rfl) ?_
  refine sw_topI (y := ((ii + 1 : Nat) : Int)) (by first | rfl | (congr 1)) ?_
  refine sw_sld (dL_law_13.at 23 rfl) hG hv.1 hv.2.1 ?_
  replace hv := hv.2.2
  refine sw_aload_nf (dL_law_13.at 24 rfl) rfl rfl ?_
  refine sw_iload_n (dL_law_13.at 25 rfl) rfl rfl ?_
  refine sw_iconst (dL_law_13.at 26 rfl) ?_
  refine sw_iadd (dL_law_13.at 27 rfl) ?_
  refine sw_topI (y := ((ii + 2 : Nat) : Int)) (by first | rfl | (congr 1)) ?_
  refine sw_sld (dL_law_13.at 28 rfl) hG hv.1 hv.2.1 ?_
  replace hv := hv.2.2
  refine sw_aload_nf (dL_law_13.at 29 rfl) rfl rfl ?_
  refine sw_iload_n (dL_law_13.at 30 rfl) rfl rfl ?_
  refine sw_iconst (dL_law_13.at 31 rfl) ?_
  refine sw_iadd (dL_law_13.at 32 rfl) ?_
  refine sw_topI (y := ((ii + 3 : Nat) : Int)) (by first | rfl | (congr 1)) ?_
  refine sw_sld (dL_law_13.at 33 rfl) hG hv.1 hv.2.1 ?_
  replace hv := hv.2.2
  refine sw_callV (B' := BL) (As := [vi ((G.2.2 (((ii + 1 : Nat) : Int).toNat)).toInt), vi ((G.2.2 (((ii + 2 : Nat) : Int).toNat)).toInt), vi ((G.2.2 (((ii + 3 : Nat) : Int).toNat)).toInt)]) (mc := 0) (ms := 0) (dL_law_13.at 34 rfl) lk_L_124 (S_lt 0 (by decide)) (S_0 nw nx g) rfl rfl (Nat.le_of_ble_eq_true rfl) rfl hB1 hB2 ?_
  refine c_X8_at (x := ((G.2.2 (((ii + 1 : Nat) : Int).toNat)).toInt)) (y := ((G.2.2 (((ii + 2 : Nat) : Int).toNat)).toInt)) (z := ((G.2.2 (((ii + 3 : Nat) : Int).toNat)).toInt)) (P := P) (T := T) (j := j + 34) hv.1 hv.2.1 hv.2.2.1 hv.2.2.2.1 hv.2.2.2.2.1 hv.2.2.2.2.2.1 hv.2.2.2.2.2.2.1 hv.2.2.2.2.2.2.2.1 (fun c_1 h_1 => ?_)
  replace hv := hv.2.2.2.2.2.2.2.2 c_1 h_1
  refine sw_aload_n (dL_law_13.at 35 rfl) rfl rfl ?_
  refine sw_aload_nf (dL_law_13.at 36 rfl) rfl rfl ?_
  refine sw_iload_n (dL_law_13.at 37 rfl) rfl rfl ?_
  refine sw_iconst (dL_law_13.at 38 rfl) ?_
  refine sw_iadd (dL_law_13.at 39 rfl) ?_
  refine sw_topI (y := ((ii + 1 : Nat) : Int)) (by first | rfl | (congr 1)) ?_
  refine sw_sld (dL_law_13.at 40 rfl) hG hv.1 hv.2.1 ?_
  replace hv := hv.2.2
  refine sw_aload_nf (dL_law_13.at 41 rfl) rfl rfl ?_
  refine sw_iload_n (dL_law_13.at 42 rfl) rfl rfl ?_
  refine sw_iconst (dL_law_13.at 43 rfl) ?_
  refine sw_iadd (dL_law_13.at 44 rfl) ?_
  refine sw_topI (y := ((ii + 2 : Nat) : Int)) (by first | rfl | (congr 1)) ?_
  refine sw_sld (dL_law_13.at 45 rfl) hG hv.1 hv.2.1 ?_
  replace hv := hv.2.2
  refine sw_aload_nf (dL_law_13.at 46 rfl) rfl rfl ?_
  refine sw_iload_n (dL_law_13.at 47 rfl) rfl rfl ?_
  refine sw_iconst (dL_law_13.at 48 rfl) ?_
  refine sw_iadd (dL_law_13.at 49 rfl) ?_
  refine sw_topI (y := ((ii + 3 : Nat) : Int)) (by first | rfl | (congr 1)) ?_
  refine sw_sld (dL_law_14.at 0 rfl) hG hv.1 hv.2.1 ?_
  replace hv := hv.2.2
  refine sw_callV (B' := BL) (As := [vi ((G.2.2 (((ii + 1 : Nat) : Int).toNat)).toInt), vi ((G.2.2 (((ii + 2 : Nat) : Int).toNat)).toInt), vi ((G.2.2 (((ii + 3 : Nat) : Int).toNat)).toInt)]) (mc := 0) (ms := 0) (dL_law_14.at 1 rfl) lk_L_127 (S_lt 49 (by decide)) (S_49 nw nx g) rfl rfl (Nat.le_of_ble_eq_true rfl) rfl hB1 hB2 ?_
  refine c_X9_at (x := ((G.2.2 (((ii + 1 : Nat) : Int).toNat)).toInt)) (y := ((G.2.2 (((ii + 2 : Nat) : Int).toNat)).toInt)) (w := ((G.2.2 (((ii + 3 : Nat) : Int).toNat)).toInt)) (P := P) (T := T) (j := j + 34) hv.1 hv.2.1 hv.2.2.1 hv.2.2.2.1 hv.2.2.2.2.1 hv.2.2.2.2.2.1 hv.2.2.2.2.2.2.1 hv.2.2.2.2.2.2.2.1 (fun c_2 h_2 => ?_)
  replace hv := hv.2.2.2.2.2.2.2.2 c_2 h_2
  refine sw_icmp_same (tgt := 2308) (dL_law_14.at 2 rfl) (by decide) ?_
  exact hv

theorem cs_at {G : GG} {j nw nx gn : Nat} {g : Nat → Sh} {c : Nat → Nat → Int} {post : Option AV → AM → Prop} {BL : BB} {P : GD} {T : PT} {ln : Nat} {bo : Nat → Nat} {n : Nat} {nb : Nat → Nat} {MT : Nat} {MA : Nat} {ii : Nat} (hG : G.2.1 < 2147483648) (hB1 : BL.1 ≤ BL.2.2.1) (hB2 : BL.2.1 ≤ BL.2.2.2) (hii : ii + 6 ≤ G.2.1) (hv : INV c nw nx P T ln bo n nb MT MA) (K : ∀ c2 : Nat → Nat → Int, INV c2 nw nx P T ln bo n nb MT MA → SW G (j + 40) mL_law 2308 [some (vf 0), some (vr (0)), some (vr (49)), some (vi (((ii : Nat) : Int)))] [] (S nw nx g, 78 + gn, c2) BL post) : SW G (j + 40) mL_law 1118 [some (vf 0), some (vr (0)), some (vr (49)), some (vi (((ii : Nat) : Int)))] [] (S nw nx g, 78 + gn, c) BL post := by
  have hv0 := hv
  obtain ⟨hIT, hIP, hIR, hIE, ⟨hwx, hSP, ⟨⟨hV, hC, hDn, hSi⟩, ⟨hOr, hMi, hSp, hBr, hBt⟩, ⟨hLa, hGP, hP0, hHT⟩, hMv⟩, hbo, hbl, hE, hM, hln⟩, ⟨hPR, hCR, hRR⟩, hIM⟩ := hv
  have hIM0 := hIM
  obtain ⟨⟨hMT60, hMA30, hMA0, hMf, hMs⟩, ⟨hM1, hM2, hM3, hM4⟩, hM5, hM6⟩ := hIM
  have hnw : nw = 21 ∨ nw = 35 := by omega
  have hRb := hC.1.1
  have hLn := hC.1.2
  have hLn2 : ∀ s, s < gR P → s + 1 < gN P := hC.1.2
  refine g_law_at (P := P) (T := T) hG hB1 hB2 ?_
  refine ⟨?_, ?_, ⟨?_, ?_, ⟨?_, ?_, ⟨?_, ?_, ?_, ?_, ?_, ?_, ?_, ?_, fun c_1 h_1 => ⟨?_, ?_, ⟨?_, ?_, ⟨?_, ?_, ⟨?_, ?_, ?_, ?_, ?_, ?_, ?_, ?_, fun c_2 h_2 => ?_⟩⟩⟩⟩⟩⟩⟩⟩
  all_goals first | assumption | omega | exact i32rng _ | exact ML_row hM (fun a ha hb => h_1.1 a (by omega) (by omega)) | exact RR_row hRR (fun a ha hb => h_1.1 a (by omega) (by omega)) | exact K _ (INV_SD (INV_CK hv0 (fun a ha hb => h_1.1 a (by omega) (by omega)) h_1.2 (CR_same hCR (h_1.1 7 (by omega) (by omega)) (h_1.1 8 (by omega) (by omega)))) h_2.1 h_2.2)

set_option maxHeartbeats 2000000 in
set_option maxRecDepth 20000 in
theorem g_law_q {G : GG} {j nw nx gn : Nat} {g : Nat → Sh} {c : Nat → Nat → Int} {post : Option AV → AM → Prop} {BL : BB} {P : GD} {T : PT} {ii : Nat} (hG : G.2.1 < 2147483648) (hB1 : BL.1 ≤ BL.2.2.1) (hB2 : BL.2.1 ≤ BL.2.2.2)  (hv : (0 ≤ ((ii + 1 : Nat) : Int)) ∧ (((ii + 1 : Nat) : Int) < (G.2.1 : Int)) ∧ ((0 ≤ ((ii + 2 : Nat) : Int)) ∧ (((ii + 2 : Nat) : Int) < (G.2.1 : Int)) ∧ ((0 ≤ ((ii + 3 : Nat) : Int)) ∧ (((ii + 3 : Nat) : Int) < (G.2.1 : Int)) ∧ ((nw = 21 ∨ nw = 35) ∧ (EL c nw P) ∧ (GV P) ∧ (HT P T) ∧ (PR P T c) ∧ (-2147483648 ≤ ((G.2.2 (((ii + 1 : Nat) : Int).toNat)).toInt) ∧ ((G.2.2 (((ii + 1 : Nat) : Int).toNat)).toInt) < 2147483648) ∧ (-2147483648 ≤ ((G.2.2 (((ii + 2 : Nat) : Int).toNat)).toInt) ∧ ((G.2.2 (((ii + 2 : Nat) : Int).toNat)).toInt) < 2147483648) ∧ (-2147483648 ≤ ((G.2.2 (((ii + 3 : Nat) : Int).toNat)).toInt) ∧ ((G.2.2 (((ii + 3 : Nat) : Int).toNat)).toInt) < 2147483648) ∧ (∀ c_1 : Nat → Nat → Int, ((∀ a, a ≠ 5 → a ≠ 6 → c_1 a = c a) ∧ PR P T c_1) → (0 ≤ ((ii + 1 : Nat) : Int)) ∧ (((ii + 1 : Nat) : Int) < (G.2.1 : Int)) ∧ ((0 ≤ ((ii + 2 : Nat) : Int)) ∧ (((ii + 2 : Nat) : Int) < (G.2.1 : Int)) ∧ ((0 ≤ ((ii + 3 : Nat) : Int)) ∧ (((ii + 3 : Nat) : Int) < (G.2.1 : Int)) ∧ ((ML c_1 P) ∧ (GV P) ∧ (GC P) ∧ (GP P T) ∧ (RR P T c_1) ∧ (-2147483648 ≤ ((G.2.2 (((ii + 1 : Nat) : Int).toNat)).toInt) ∧ ((G.2.2 (((ii + 1 : Nat) : Int).toNat)).toInt) < 2147483648) ∧ (-2147483648 ≤ ((G.2.2 (((ii + 2 : Nat) : Int).toNat)).toInt) ∧ ((G.2.2 (((ii + 2 : Nat) : Int).toNat)).toInt) < 2147483648) ∧ (-2147483648 ≤ ((G.2.2 (((ii + 3 : Nat) : Int).toNat)).toInt) ∧ ((G.2.2 (((ii + 3 : Nat) : Int).toNat)).toInt) < 2147483648) ∧ (∀ c_2 : Nat → Nat → Int, (SD c_1 c_2 ∧ RR P T c_2) → SW G (j + 40) mL_law 2308 [some (vf 0), some (vr (0)), some (vr (49)), some (vi (((ii : Nat) : Int)))] [] (S nw nx g, 78 + gn, c_2) BL post))))))))) :
    SW G (j + 40) mL_law 1161 [some (vf 0), some (vr (0)), some (vr (49)), some (vi (((ii : Nat) : Int)))] [] (S nw nx g, 78 + gn, c) BL post := by
  refine sw_aload_n (dL_law_14.at 5 rfl) rfl rfl ?_
  refine sw_aload_nf (dL_law_14.at 6 rfl) rfl rfl ?_
  refine sw_iload_n (dL_law_14.at 7 rfl) rfl rfl ?_
  refine sw_iconst (dL_law_14.at 8 rfl) ?_
  refine sw_iadd (dL_law_14.at 9 rfl) ?_
  refine sw_topI (y := ((ii + 1 : Nat) : Int)) (by first | rfl | (congr 1)) ?_
  refine sw_sld (dL_law_14.at 10 rfl) hG hv.1 hv.2.1 ?_
  replace hv := hv.2.2
  refine sw_aload_nf (dL_law_14.at 11 rfl) rfl rfl ?_
  refine sw_iload_n (dL_law_14.at 12 rfl) rfl rfl ?_
  refine sw_iconst (dL_law_14.at 13 rfl) ?_
  refine sw_iadd (dL_law_14.at 14 rfl) ?_
  refine sw_topI (y := ((ii + 2 : Nat) : Int)) (by first | rfl | (congr 1)) ?_
  refine sw_sld (dL_law_14.at 15 rfl) hG hv.1 hv.2.1 ?_
  replace hv := hv.2.2
  refine sw_aload_nf (dL_law_14.at 16 rfl) rfl rfl ?_
  refine sw_iload_n (dL_law_14.at 17 rfl) rfl rfl ?_
  refine sw_iconst (dL_law_14.at 18 rfl) ?_
  refine sw_iadd (dL_law_14.at 19 rfl) ?_
  refine sw_topI (y := ((ii + 3 : Nat) : Int)) (by first | rfl | (congr 1)) ?_
  refine sw_sld (dL_law_14.at 20 rfl) hG hv.1 hv.2.1 ?_
  replace hv := hv.2.2
  refine sw_callV (B' := BL) (As := [vi ((G.2.2 (((ii + 1 : Nat) : Int).toNat)).toInt), vi ((G.2.2 (((ii + 2 : Nat) : Int).toNat)).toInt), vi ((G.2.2 (((ii + 3 : Nat) : Int).toNat)).toInt)]) (mc := 0) (ms := 0) (dL_law_14.at 21 rfl) lk_L_128 (S_lt 0 (by decide)) (S_0 nw nx g) rfl rfl (Nat.le_of_ble_eq_true rfl) rfl hB1 hB2 ?_
  refine c_X8_q (x := ((G.2.2 (((ii + 1 : Nat) : Int).toNat)).toInt)) (y := ((G.2.2 (((ii + 2 : Nat) : Int).toNat)).toInt)) (k := ((G.2.2 (((ii + 3 : Nat) : Int).toNat)).toInt)) (P := P) (T := T) (j := j + 33) hv.1 hv.2.1 hv.2.2.1 hv.2.2.2.1 hv.2.2.2.2.1 hv.2.2.2.2.2.1 hv.2.2.2.2.2.2.1 hv.2.2.2.2.2.2.2.1 (fun c_1 h_1 => ?_)
  replace hv := hv.2.2.2.2.2.2.2.2 c_1 h_1
  refine sw_aload_n (dL_law_14.at 22 rfl) rfl rfl ?_
  refine sw_aload_nf (dL_law_14.at 23 rfl) rfl rfl ?_
  refine sw_iload_n (dL_law_14.at 24 rfl) rfl rfl ?_
  refine sw_iconst (dL_law_14.at 25 rfl) ?_
  refine sw_iadd (dL_law_14.at 26 rfl) ?_
  refine sw_topI (y := ((ii + 1 : Nat) : Int)) (by first | rfl | (congr 1)) ?_
  refine sw_sld (dL_law_14.at 27 rfl) hG hv.1 hv.2.1 ?_
  replace hv := hv.2.2
  refine sw_aload_nf (dL_law_14.at 28 rfl) rfl rfl ?_
  refine sw_iload_n (dL_law_14.at 29 rfl) rfl rfl ?_
  refine sw_iconst (dL_law_14.at 30 rfl) ?_
  refine sw_iadd (dL_law_14.at 31 rfl) ?_
  refine sw_topI (y := ((ii + 2 : Nat) : Int)) (by first | rfl | (congr 1)) ?_
  refine sw_sld (dL_law_14.at 32 rfl) hG hv.1 hv.2.1 ?_
  replace hv := hv.2.2
  refine sw_aload_nf (dL_law_14.at 33 rfl) rfl rfl ?_
  refine sw_iload_n (dL_law_14.at 34 rfl) rfl rfl ?_
  refine sw_iconst (dL_law_14.at 35 rfl) ?_
  refine sw_iadd (dL_law_14.at 36 rfl) ?_
  refine sw_topI (y := ((ii + 3 : Nat) : Int)) (by first | rfl | (congr 1)) ?_
  refine sw_sld (dL_law_14.at 37 rfl) hG hv.1 hv.2.1 ?_
  replace hv := hv.2.2
  refine sw_callV (B' := BL) (As := [vi ((G.2.2 (((ii + 1 : Nat) : Int).toNat)).toInt), vi ((G.2.2 (((ii + 2 : Nat) : Int).toNat)).toInt), vi ((G.2.2 (((ii + 3 : Nat) : Int).toNat)).toInt)]) (mc := 0) (ms := 0) (dL_law_14.at 38 rfl) lk_L_131 (S_lt 49 (by decide)) (S_49 nw nx g) rfl rfl (Nat.le_of_ble_eq_true rfl) rfl hB1 hB2 ?_
  refine c_X9_q (x := ((G.2.2 (((ii + 1 : Nat) : Int).toNat)).toInt)) (y := ((G.2.2 (((ii + 2 : Nat) : Int).toNat)).toInt)) (k := ((G.2.2 (((ii + 3 : Nat) : Int).toNat)).toInt)) (P := P) (T := T) (j := j + 34) hv.1 hv.2.1 hv.2.2.1 hv.2.2.2.1 hv.2.2.2.2.1 hv.2.2.2.2.2.1 hv.2.2.2.2.2.2.1 hv.2.2.2.2.2.2.2.1 (fun c_2 h_2 => ?_)
  replace hv := hv.2.2.2.2.2.2.2.2 c_2 h_2
  refine sw_icmp_same (tgt := 2308) (dL_law_14.at 39 rfl) (by decide) ?_
  exact hv

theorem cs_q {G : GG} {j nw nx gn : Nat} {g : Nat → Sh} {c : Nat → Nat → Int} {post : Option AV → AM → Prop} {BL : BB} {P : GD} {T : PT} {ln : Nat} {bo : Nat → Nat} {n : Nat} {nb : Nat → Nat} {MT : Nat} {MA : Nat} {ii : Nat} (hG : G.2.1 < 2147483648) (hB1 : BL.1 ≤ BL.2.2.1) (hB2 : BL.2.1 ≤ BL.2.2.2) (hii : ii + 6 ≤ G.2.1) (hv : INV c nw nx P T ln bo n nb MT MA) (K : ∀ c2 : Nat → Nat → Int, INV c2 nw nx P T ln bo n nb MT MA → SW G (j + 40) mL_law 2308 [some (vf 0), some (vr (0)), some (vr (49)), some (vi (((ii : Nat) : Int)))] [] (S nw nx g, 78 + gn, c2) BL post) : SW G (j + 40) mL_law 1161 [some (vf 0), some (vr (0)), some (vr (49)), some (vi (((ii : Nat) : Int)))] [] (S nw nx g, 78 + gn, c) BL post := by
  have hv0 := hv
  obtain ⟨hIT, hIP, hIR, hIE, ⟨hwx, hSP, ⟨⟨hV, hC, hDn, hSi⟩, ⟨hOr, hMi, hSp, hBr, hBt⟩, ⟨hLa, hGP, hP0, hHT⟩, hMv⟩, hbo, hbl, hE, hM, hln⟩, ⟨hPR, hCR, hRR⟩, hIM⟩ := hv
  have hIM0 := hIM
  obtain ⟨⟨hMT60, hMA30, hMA0, hMf, hMs⟩, ⟨hM1, hM2, hM3, hM4⟩, hM5, hM6⟩ := hIM
  have hnw : nw = 21 ∨ nw = 35 := by omega
  have hRb := hC.1.1
  have hLn := hC.1.2
  have hLn2 : ∀ s, s < gR P → s + 1 < gN P := hC.1.2
  refine g_law_q (P := P) (T := T) hG hB1 hB2 ?_
  refine ⟨?_, ?_, ⟨?_, ?_, ⟨?_, ?_, ⟨?_, ?_, ?_, ?_, ?_, ?_, ?_, ?_, fun c_1 h_1 => ⟨?_, ?_, ⟨?_, ?_, ⟨?_, ?_, ⟨?_, ?_, ?_, ?_, ?_, ?_, ?_, ?_, fun c_2 h_2 => ?_⟩⟩⟩⟩⟩⟩⟩⟩
  all_goals first | assumption | omega | exact i32rng _ | exact ML_row hM (fun a ha hb => h_1.1 a (by omega) (by omega)) | exact RR_row hRR (fun a ha hb => h_1.1 a (by omega) (by omega)) | exact K _ (INV_SD (INV_CK hv0 (fun a ha hb => h_1.1 a (by omega) (by omega)) h_1.2 (CR_same hCR (h_1.1 7 (by omega) (by omega)) (h_1.1 8 (by omega) (by omega)))) h_2.1 h_2.2)

set_option maxHeartbeats 2000000 in
set_option maxRecDepth 20000 in
theorem g_law_smooth {G : GG} {j nw nx gn : Nat} {g : Nat → Sh} {c : Nat → Nat → Int} {post : Option AV → AM → Prop} {BL : BB} {P : GD} {T : PT} {ii : Nat} (hG : G.2.1 < 2147483648) (hB1 : BL.1 ≤ BL.2.2.1) (hB2 : BL.2.1 ≤ BL.2.2.2)  (hv : (0 ≤ ((ii + 1 : Nat) : Int)) ∧ (((ii + 1 : Nat) : Int) < (G.2.1 : Int)) ∧ ((nw = 21 ∨ nw = 35) ∧ (EL c nw P) ∧ (GV P) ∧ (HT P T) ∧ (PR P T c) ∧ (-2147483648 ≤ ((G.2.2 (((ii + 1 : Nat) : Int).toNat)).toInt) ∧ ((G.2.2 (((ii + 1 : Nat) : Int).toNat)).toInt) < 2147483648) ∧ (∀ c_1 : Nat → Nat → Int, ((∀ a, a ≠ 5 → a ≠ 6 → c_1 a = c a) ∧ PR P T c_1) → (0 ≤ ((ii + 1 : Nat) : Int)) ∧ (((ii + 1 : Nat) : Int) < (G.2.1 : Int)) ∧ ((ML c_1 P) ∧ (GV P) ∧ (GC P) ∧ (GP P T) ∧ (RR P T c_1) ∧ (HT P T) ∧ (hP0 P T) ∧ (-2147483648 ≤ ((G.2.2 (((ii + 1 : Nat) : Int).toNat)).toInt) ∧ ((G.2.2 (((ii + 1 : Nat) : Int).toNat)).toInt) < 2147483648) ∧ (∀ c_2 : Nat → Nat → Int, (SD c_1 c_2 ∧ RR P T c_2) → SW G (j + 40) mL_law 2308 [some (vf 0), some (vr (0)), some (vr (49)), some (vi (((ii : Nat) : Int)))] [] (S nw nx g, 78 + gn, c_2) BL post))))) :
    SW G (j + 40) mL_law 1204 [some (vf 0), some (vr (0)), some (vr (49)), some (vi (((ii : Nat) : Int)))] [] (S nw nx g, 78 + gn, c) BL post := by
  refine sw_aload_n (dL_law_14.at 42 rfl) rfl rfl ?_
  refine sw_aload_nf (dL_law_14.at 43 rfl) rfl rfl ?_
  refine sw_iload_n (dL_law_14.at 44 rfl) rfl rfl ?_
  refine sw_iconst (dL_law_14.at 45 rfl) ?_
  refine sw_iadd (dL_law_14.at 46 rfl) ?_
  refine sw_topI (y := ((ii + 1 : Nat) : Int)) (by first | rfl | (congr 1)) ?_
  refine sw_sld (dL_law_14.at 47 rfl) hG hv.1 hv.2.1 ?_
  replace hv := hv.2.2
  refine sw_callV (B' := BL) (As := [vi ((G.2.2 (((ii + 1 : Nat) : Int).toNat)).toInt)]) (mc := 0) (ms := 0) (dL_law_14.at 48 rfl) lk_L_132 (S_lt 0 (by decide)) (S_0 nw nx g) rfl rfl (Nat.le_of_ble_eq_true rfl) rfl hB1 hB2 ?_
  refine c_X8_smooth (x := ((G.2.2 (((ii + 1 : Nat) : Int).toNat)).toInt)) (P := P) (T := T) (j := j + 34) hv.1 hv.2.1 hv.2.2.1 hv.2.2.2.1 hv.2.2.2.2.1 hv.2.2.2.2.2.1 (fun c_1 h_1 => ?_)
  replace hv := hv.2.2.2.2.2.2 c_1 h_1
  refine sw_aload_n (dL_law_14.at 49 rfl) rfl rfl ?_
  refine sw_aload_nf (dL_law_15.at 0 rfl) rfl rfl ?_
  refine sw_iload_n (dL_law_15.at 1 rfl) rfl rfl ?_
  refine sw_iconst (dL_law_15.at 2 rfl) ?_
  refine sw_iadd (dL_law_15.at 3 rfl) ?_
  refine sw_topI (y := ((ii + 1 : Nat) : Int)) (by first | rfl | (congr 1)) ?_
  refine sw_sld (dL_law_15.at 4 rfl) hG hv.1 hv.2.1 ?_
  replace hv := hv.2.2
  refine sw_callV (B' := BL) (As := [vi ((G.2.2 (((ii + 1 : Nat) : Int).toNat)).toInt)]) (mc := 0) (ms := 0) (dL_law_15.at 5 rfl) lk_L_135 (S_lt 49 (by decide)) (S_49 nw nx g) rfl rfl (Nat.le_of_ble_eq_true rfl) rfl hB1 hB2 ?_
  refine c_X9_smooth (x := ((G.2.2 (((ii + 1 : Nat) : Int).toNat)).toInt)) (P := P) (T := T) (j := j + 34) hv.1 hv.2.1 hv.2.2.1 hv.2.2.2.1 hv.2.2.2.2.1 hv.2.2.2.2.2.1 hv.2.2.2.2.2.2.1 hv.2.2.2.2.2.2.2.1 (fun c_2 h_2 => ?_)
  replace hv := hv.2.2.2.2.2.2.2.2 c_2 h_2
  refine sw_icmp_same (tgt := 2308) (dL_law_15.at 6 rfl) (by decide) ?_
  exact hv

theorem cs_smooth {G : GG} {j nw nx gn : Nat} {g : Nat → Sh} {c : Nat → Nat → Int} {post : Option AV → AM → Prop} {BL : BB} {P : GD} {T : PT} {ln : Nat} {bo : Nat → Nat} {n : Nat} {nb : Nat → Nat} {MT : Nat} {MA : Nat} {ii : Nat} (hG : G.2.1 < 2147483648) (hB1 : BL.1 ≤ BL.2.2.1) (hB2 : BL.2.1 ≤ BL.2.2.2) (hii : ii + 6 ≤ G.2.1) (hv : INV c nw nx P T ln bo n nb MT MA) (K : ∀ c2 : Nat → Nat → Int, INV c2 nw nx P T ln bo n nb MT MA → SW G (j + 40) mL_law 2308 [some (vf 0), some (vr (0)), some (vr (49)), some (vi (((ii : Nat) : Int)))] [] (S nw nx g, 78 + gn, c2) BL post) : SW G (j + 40) mL_law 1204 [some (vf 0), some (vr (0)), some (vr (49)), some (vi (((ii : Nat) : Int)))] [] (S nw nx g, 78 + gn, c) BL post := by
  have hv0 := hv
  obtain ⟨hIT, hIP, hIR, hIE, ⟨hwx, hSP, ⟨⟨hV, hC, hDn, hSi⟩, ⟨hOr, hMi, hSp, hBr, hBt⟩, ⟨hLa, hGP, hP0, hHT⟩, hMv⟩, hbo, hbl, hE, hM, hln⟩, ⟨hPR, hCR, hRR⟩, hIM⟩ := hv
  have hIM0 := hIM
  obtain ⟨⟨hMT60, hMA30, hMA0, hMf, hMs⟩, ⟨hM1, hM2, hM3, hM4⟩, hM5, hM6⟩ := hIM
  have hnw : nw = 21 ∨ nw = 35 := by omega
  have hRb := hC.1.1
  have hLn := hC.1.2
  have hLn2 : ∀ s, s < gR P → s + 1 < gN P := hC.1.2
  refine g_law_smooth (P := P) (T := T) hG hB1 hB2 ?_
  refine ⟨?_, ?_, ⟨?_, ?_, ?_, ?_, ?_, ?_, fun c_1 h_1 => ⟨?_, ?_, ⟨?_, ?_, ?_, ?_, ?_, ?_, ?_, ?_, fun c_2 h_2 => ?_⟩⟩⟩⟩
  all_goals first | assumption | omega | exact i32rng _ | exact ML_row hM (fun a ha hb => h_1.1 a (by omega) (by omega)) | exact RR_row hRR (fun a ha hb => h_1.1 a (by omega) (by omega)) | exact K _ (INV_SD (INV_CK hv0 (fun a ha hb => h_1.1 a (by omega) (by omega)) h_1.2 (CR_same hCR (h_1.1 7 (by omega) (by omega)) (h_1.1 8 (by omega) (by omega)))) h_2.1 h_2.2)

set_option maxHeartbeats 2000000 in
set_option maxRecDepth 20000 in
theorem g_law_tallest {G : GG} {j nw nx gn : Nat} {g : Nat → Sh} {c : Nat → Nat → Int} {post : Option AV → AM → Prop} {BL : BB} {P : GD} {T : PT} {ii : Nat} (hG : G.2.1 < 2147483648) (hB1 : BL.1 ≤ BL.2.2.1) (hB2 : BL.2.1 ≤ BL.2.2.2)  (hv : (nw = 21 ∨ nw = 35) ∧ (EL c nw P) ∧ (GV P) ∧ (HT P T) ∧ (PR P T c) ∧ (∀ c_1 : Nat → Nat → Int, ((∀ a, a ≠ 5 → a ≠ 6 → c_1 a = c a) ∧ PR P T c_1) → (ML c_1 P) ∧ (GV P) ∧ (GC P) ∧ (GP P T) ∧ (RR P T c_1) ∧ (HT P T) ∧ (∀ c_2 : Nat → Nat → Int, (SD c_1 c_2 ∧ RR P T c_2) → SW G (j + 40) mL_law 2308 [some (vf 0), some (vr (0)), some (vr (49)), some (vi (((ii : Nat) : Int)))] [] (S nw nx g, 78 + gn, c_2) BL post))) :
    SW G (j + 40) mL_law 1227 [some (vf 0), some (vr (0)), some (vr (49)), some (vi (((ii : Nat) : Int)))] [] (S nw nx g, 78 + gn, c) BL post := by
  refine sw_aload_n (dL_law_15.at 9 rfl) rfl rfl ?_
  refine sw_callV (B' := BL) (As := []) (mc := 0) (ms := 0) (dL_law_15.at 10 rfl) lk_L_136 (S_lt 0 (by decide)) (S_0 nw nx g) rfl rfl (Nat.le_of_ble_eq_true rfl) rfl hB1 hB2 ?_
  refine c_X8_tallest (P := P) (T := T) (j := j + 34) hv.1 hv.2.1 hv.2.2.1 hv.2.2.2.1 hv.2.2.2.2.1 (fun c_1 h_1 => ?_)
  replace hv := hv.2.2.2.2.2 c_1 h_1
  refine sw_aload_n (dL_law_15.at 11 rfl) rfl rfl ?_
  refine sw_callV (B' := BL) (As := []) (mc := 0) (ms := 0) (dL_law_15.at 12 rfl) lk_L_139 (S_lt 49 (by decide)) (S_49 nw nx g) rfl rfl (Nat.le_of_ble_eq_true rfl) rfl hB1 hB2 ?_
  refine c_X9_tallest (P := P) (T := T) (j := j + 35) hv.1 hv.2.1 hv.2.2.1 hv.2.2.2.1 hv.2.2.2.2.1 hv.2.2.2.2.2.1 (fun c_2 h_2 => ?_)
  replace hv := hv.2.2.2.2.2.2 c_2 h_2
  refine sw_icmp_same (tgt := 2308) (dL_law_15.at 13 rfl) (by decide) ?_
  exact hv

theorem cs_tallest {G : GG} {j nw nx gn : Nat} {g : Nat → Sh} {c : Nat → Nat → Int} {post : Option AV → AM → Prop} {BL : BB} {P : GD} {T : PT} {ln : Nat} {bo : Nat → Nat} {n : Nat} {nb : Nat → Nat} {MT : Nat} {MA : Nat} {ii : Nat} (hG : G.2.1 < 2147483648) (hB1 : BL.1 ≤ BL.2.2.1) (hB2 : BL.2.1 ≤ BL.2.2.2) (hii : ii + 6 ≤ G.2.1) (hv : INV c nw nx P T ln bo n nb MT MA) (K : ∀ c2 : Nat → Nat → Int, INV c2 nw nx P T ln bo n nb MT MA → SW G (j + 40) mL_law 2308 [some (vf 0), some (vr (0)), some (vr (49)), some (vi (((ii : Nat) : Int)))] [] (S nw nx g, 78 + gn, c2) BL post) : SW G (j + 40) mL_law 1227 [some (vf 0), some (vr (0)), some (vr (49)), some (vi (((ii : Nat) : Int)))] [] (S nw nx g, 78 + gn, c) BL post := by
  have hv0 := hv
  obtain ⟨hIT, hIP, hIR, hIE, ⟨hwx, hSP, ⟨⟨hV, hC, hDn, hSi⟩, ⟨hOr, hMi, hSp, hBr, hBt⟩, ⟨hLa, hGP, hP0, hHT⟩, hMv⟩, hbo, hbl, hE, hM, hln⟩, ⟨hPR, hCR, hRR⟩, hIM⟩ := hv
  have hIM0 := hIM
  obtain ⟨⟨hMT60, hMA30, hMA0, hMf, hMs⟩, ⟨hM1, hM2, hM3, hM4⟩, hM5, hM6⟩ := hIM
  have hnw : nw = 21 ∨ nw = 35 := by omega
  have hRb := hC.1.1
  have hLn := hC.1.2
  have hLn2 : ∀ s, s < gR P → s + 1 < gN P := hC.1.2
  refine g_law_tallest (P := P) (T := T) hG hB1 hB2 ?_
  refine ⟨?_, ?_, ?_, ?_, ?_, fun c_1 h_1 => ⟨?_, ?_, ?_, ?_, ?_, ?_, fun c_2 h_2 => ?_⟩⟩
  all_goals first | assumption | omega | exact i32rng _ | exact ML_row hM (fun a ha hb => h_1.1 a (by omega) (by omega)) | exact RR_row hRR (fun a ha hb => h_1.1 a (by omega) (by omega)) | exact K _ (INV_SD (INV_CK hv0 (fun a ha hb => h_1.1 a (by omega) (by omega)) h_1.2 (CR_same hCR (h_1.1 7 (by omega) (by omega)) (h_1.1 8 (by omega) (by omega)))) h_2.1 h_2.2)

set_option maxHeartbeats 2000000 in
set_option maxRecDepth 20000 in
theorem g_law_crooked {G : GG} {j nw nx gn : Nat} {g : Nat → Sh} {c : Nat → Nat → Int} {post : Option AV → AM → Prop} {BL : BB} {P : GD} {T : PT} {ii : Nat} (hG : G.2.1 < 2147483648) (hB1 : BL.1 ≤ BL.2.2.1) (hB2 : BL.2.1 ≤ BL.2.2.2)  (hv : (nw = 21 ∨ nw = 35) ∧ (EL c nw P) ∧ (GV P) ∧ (HT P T) ∧ (PR P T c) ∧ (∀ c_1 : Nat → Nat → Int, ((∀ a, a ≠ 5 → a ≠ 6 → c_1 a = c a) ∧ PR P T c_1) → (ML c_1 P) ∧ (GV P) ∧ (GC P) ∧ (GP P T) ∧ (RR P T c_1) ∧ (HT P T) ∧ (hP0 P T) ∧ (∀ c_2 : Nat → Nat → Int, (SD c_1 c_2 ∧ RR P T c_2) → SW G (j + 40) mL_law 2308 [some (vf 0), some (vr (0)), some (vr (49)), some (vi (((ii : Nat) : Int)))] [] (S nw nx g, 78 + gn, c_2) BL post))) :
    SW G (j + 40) mL_law 1240 [some (vf 0), some (vr (0)), some (vr (49)), some (vi (((ii : Nat) : Int)))] [] (S nw nx g, 78 + gn, c) BL post := by
  refine sw_aload_n (dL_law_15.at 16 rfl) rfl rfl ?_
  refine sw_callV (B' := BL) (As := []) (mc := 0) (ms := 0) (dL_law_15.at 17 rfl) lk_L_140 (S_lt 0 (by decide)) (S_0 nw nx g) rfl rfl (Nat.le_of_ble_eq_true rfl) rfl hB1 hB2 ?_
  refine c_X8_crooked (P := P) (T := T) (j := j + 34) hv.1 hv.2.1 hv.2.2.1 hv.2.2.2.1 hv.2.2.2.2.1 (fun c_1 h_1 => ?_)
  replace hv := hv.2.2.2.2.2 c_1 h_1
  refine sw_aload_n (dL_law_15.at 18 rfl) rfl rfl ?_
  refine sw_callV (B' := BL) (As := []) (mc := 0) (ms := 0) (dL_law_15.at 19 rfl) lk_L_143 (S_lt 49 (by decide)) (S_49 nw nx g) rfl rfl (Nat.le_of_ble_eq_true rfl) rfl hB1 hB2 ?_
  refine c_X9_crooked (P := P) (T := T) (j := j + 34) hv.1 hv.2.1 hv.2.2.1 hv.2.2.2.1 hv.2.2.2.2.1 hv.2.2.2.2.2.1 hv.2.2.2.2.2.2.1 (fun c_2 h_2 => ?_)
  replace hv := hv.2.2.2.2.2.2.2 c_2 h_2
  refine sw_icmp_same (tgt := 2308) (dL_law_15.at 20 rfl) (by decide) ?_
  exact hv

theorem cs_crooked {G : GG} {j nw nx gn : Nat} {g : Nat → Sh} {c : Nat → Nat → Int} {post : Option AV → AM → Prop} {BL : BB} {P : GD} {T : PT} {ln : Nat} {bo : Nat → Nat} {n : Nat} {nb : Nat → Nat} {MT : Nat} {MA : Nat} {ii : Nat} (hG : G.2.1 < 2147483648) (hB1 : BL.1 ≤ BL.2.2.1) (hB2 : BL.2.1 ≤ BL.2.2.2) (hii : ii + 6 ≤ G.2.1) (hv : INV c nw nx P T ln bo n nb MT MA) (K : ∀ c2 : Nat → Nat → Int, INV c2 nw nx P T ln bo n nb MT MA → SW G (j + 40) mL_law 2308 [some (vf 0), some (vr (0)), some (vr (49)), some (vi (((ii : Nat) : Int)))] [] (S nw nx g, 78 + gn, c2) BL post) : SW G (j + 40) mL_law 1240 [some (vf 0), some (vr (0)), some (vr (49)), some (vi (((ii : Nat) : Int)))] [] (S nw nx g, 78 + gn, c) BL post := by
  have hv0 := hv
  obtain ⟨hIT, hIP, hIR, hIE, ⟨hwx, hSP, ⟨⟨hV, hC, hDn, hSi⟩, ⟨hOr, hMi, hSp, hBr, hBt⟩, ⟨hLa, hGP, hP0, hHT⟩, hMv⟩, hbo, hbl, hE, hM, hln⟩, ⟨hPR, hCR, hRR⟩, hIM⟩ := hv
  have hIM0 := hIM
  obtain ⟨⟨hMT60, hMA30, hMA0, hMf, hMs⟩, ⟨hM1, hM2, hM3, hM4⟩, hM5, hM6⟩ := hIM
  have hnw : nw = 21 ∨ nw = 35 := by omega
  have hRb := hC.1.1
  have hLn := hC.1.2
  have hLn2 : ∀ s, s < gR P → s + 1 < gN P := hC.1.2
  refine g_law_crooked (P := P) (T := T) hG hB1 hB2 ?_
  refine ⟨?_, ?_, ?_, ?_, ?_, fun c_1 h_1 => ⟨?_, ?_, ?_, ?_, ?_, ?_, ?_, fun c_2 h_2 => ?_⟩⟩
  all_goals first | assumption | omega | exact i32rng _ | exact ML_row hM (fun a ha hb => h_1.1 a (by omega) (by omega)) | exact RR_row hRR (fun a ha hb => h_1.1 a (by omega) (by omega)) | exact K _ (INV_SD (INV_CK hv0 (fun a ha hb => h_1.1 a (by omega) (by omega)) h_1.2 (CR_same hCR (h_1.1 7 (by omega) (by omega)) (h_1.1 8 (by omega) (by omega)))) h_2.1 h_2.2)

set_option maxHeartbeats 2000000 in
set_option maxRecDepth 20000 in
theorem g_law_crookedPair {G : GG} {j nw nx gn : Nat} {g : Nat → Sh} {c : Nat → Nat → Int} {post : Option AV → AM → Prop} {BL : BB} {P : GD} {T : PT} {ii : Nat} (hG : G.2.1 < 2147483648) (hB1 : BL.1 ≤ BL.2.2.1) (hB2 : BL.2.1 ≤ BL.2.2.2)  (hv : (0 ≤ ((ii + 1 : Nat) : Int)) ∧ (((ii + 1 : Nat) : Int) < (G.2.1 : Int)) ∧ ((nw = 21 ∨ nw = 35) ∧ (EL c nw P) ∧ (GV P) ∧ (HT P T) ∧ (PR P T c) ∧ (-2147483648 ≤ ((G.2.2 (((ii + 1 : Nat) : Int).toNat)).toInt) ∧ ((G.2.2 (((ii + 1 : Nat) : Int).toNat)).toInt) < 2147483648) ∧ (∀ c_1 : Nat → Nat → Int, ((∀ a, a ≠ 5 → a ≠ 6 → c_1 a = c a) ∧ PR P T c_1) → (0 ≤ ((ii + 1 : Nat) : Int)) ∧ (((ii + 1 : Nat) : Int) < (G.2.1 : Int)) ∧ ((ML c_1 P) ∧ (GV P) ∧ (GC P) ∧ (GP P T) ∧ (RR P T c_1) ∧ (HT P T) ∧ (hP0 P T) ∧ (-2147483648 ≤ ((G.2.2 (((ii + 1 : Nat) : Int).toNat)).toInt) ∧ ((G.2.2 (((ii + 1 : Nat) : Int).toNat)).toInt) < 2147483648) ∧ (∀ c_2 : Nat → Nat → Int, (SD c_1 c_2 ∧ RR P T c_2) → SW G (j + 40) mL_law 2308 [some (vf 0), some (vr (0)), some (vr (49)), some (vi (((ii : Nat) : Int)))] [] (S nw nx g, 78 + gn, c_2) BL post))))) :
    SW G (j + 40) mL_law 1253 [some (vf 0), some (vr (0)), some (vr (49)), some (vi (((ii : Nat) : Int)))] [] (S nw nx g, 78 + gn, c) BL post := by
  refine sw_aload_n (dL_law_15.at 23 rfl) rfl rfl ?_
  refine sw_aload_nf (dL_law_15.at 24 rfl) rfl rfl ?_
  refine sw_iload_n (dL_law_15.at 25 rfl) rfl rfl ?_
  refine sw_iconst (dL_law_15.at 26 rfl) ?_
  refine sw_iadd (dL_law_15.at 27 rfl) ?_
  refine sw_topI (y := ((ii + 1 : Nat) : Int)) (by first | rfl | (congr 1)) ?_
  refine sw_sld (dL_law_15.at 28 rfl) hG hv.1 hv.2.1 ?_
  replace hv := hv.2.2
  refine sw_callV (B' := BL) (As := [vi ((G.2.2 (((ii + 1 : Nat) : Int).toNat)).toInt)]) (mc := 0) (ms := 0) (dL_law_15.at 29 rfl) lk_L_144 (S_lt 0 (by decide)) (S_0 nw nx g) rfl rfl (Nat.le_of_ble_eq_true rfl) rfl hB1 hB2 ?_
  refine c_X8_crookedPair (i := ((G.2.2 (((ii + 1 : Nat) : Int).toNat)).toInt)) (P := P) (T := T) (j := j + 34) hv.1 hv.2.1 hv.2.2.1 hv.2.2.2.1 hv.2.2.2.2.1 hv.2.2.2.2.2.1 (fun c_1 h_1 => ?_)
  replace hv := hv.2.2.2.2.2.2 c_1 h_1
  refine sw_aload_n (dL_law_15.at 30 rfl) rfl rfl ?_
  refine sw_aload_nf (dL_law_15.at 31 rfl) rfl rfl ?_
  refine sw_iload_n (dL_law_15.at 32 rfl) rfl rfl ?_
  refine sw_iconst (dL_law_15.at 33 rfl) ?_
  refine sw_iadd (dL_law_15.at 34 rfl) ?_
  refine sw_topI (y := ((ii + 1 : Nat) : Int)) (by first | rfl | (congr 1)) ?_
  refine sw_sld (dL_law_15.at 35 rfl) hG hv.1 hv.2.1 ?_
  replace hv := hv.2.2
  refine sw_callV (B' := BL) (As := [vi ((G.2.2 (((ii + 1 : Nat) : Int).toNat)).toInt)]) (mc := 0) (ms := 0) (dL_law_15.at 36 rfl) lk_L_147 (S_lt 49 (by decide)) (S_49 nw nx g) rfl rfl (Nat.le_of_ble_eq_true rfl) rfl hB1 hB2 ?_
  refine c_X9_crookedPair (i := ((G.2.2 (((ii + 1 : Nat) : Int).toNat)).toInt)) (P := P) (T := T) (j := j + 34) hv.1 hv.2.1 hv.2.2.1 hv.2.2.2.1 hv.2.2.2.2.1 hv.2.2.2.2.2.1 hv.2.2.2.2.2.2.1 hv.2.2.2.2.2.2.2.1 (fun c_2 h_2 => ?_)
  replace hv := hv.2.2.2.2.2.2.2.2 c_2 h_2
  refine sw_icmp_same (tgt := 2308) (dL_law_15.at 37 rfl) (by decide) ?_
  exact hv

theorem cs_crookedPair {G : GG} {j nw nx gn : Nat} {g : Nat → Sh} {c : Nat → Nat → Int} {post : Option AV → AM → Prop} {BL : BB} {P : GD} {T : PT} {ln : Nat} {bo : Nat → Nat} {n : Nat} {nb : Nat → Nat} {MT : Nat} {MA : Nat} {ii : Nat} (hG : G.2.1 < 2147483648) (hB1 : BL.1 ≤ BL.2.2.1) (hB2 : BL.2.1 ≤ BL.2.2.2) (hii : ii + 6 ≤ G.2.1) (hv : INV c nw nx P T ln bo n nb MT MA) (K : ∀ c2 : Nat → Nat → Int, INV c2 nw nx P T ln bo n nb MT MA → SW G (j + 40) mL_law 2308 [some (vf 0), some (vr (0)), some (vr (49)), some (vi (((ii : Nat) : Int)))] [] (S nw nx g, 78 + gn, c2) BL post) : SW G (j + 40) mL_law 1253 [some (vf 0), some (vr (0)), some (vr (49)), some (vi (((ii : Nat) : Int)))] [] (S nw nx g, 78 + gn, c) BL post := by
  have hv0 := hv
  obtain ⟨hIT, hIP, hIR, hIE, ⟨hwx, hSP, ⟨⟨hV, hC, hDn, hSi⟩, ⟨hOr, hMi, hSp, hBr, hBt⟩, ⟨hLa, hGP, hP0, hHT⟩, hMv⟩, hbo, hbl, hE, hM, hln⟩, ⟨hPR, hCR, hRR⟩, hIM⟩ := hv
  have hIM0 := hIM
  obtain ⟨⟨hMT60, hMA30, hMA0, hMf, hMs⟩, ⟨hM1, hM2, hM3, hM4⟩, hM5, hM6⟩ := hIM
  have hnw : nw = 21 ∨ nw = 35 := by omega
  have hRb := hC.1.1
  have hLn := hC.1.2
  have hLn2 : ∀ s, s < gR P → s + 1 < gN P := hC.1.2
  refine g_law_crookedPair (P := P) (T := T) hG hB1 hB2 ?_
  refine ⟨?_, ?_, ⟨?_, ?_, ?_, ?_, ?_, ?_, fun c_1 h_1 => ⟨?_, ?_, ⟨?_, ?_, ?_, ?_, ?_, ?_, ?_, ?_, fun c_2 h_2 => ?_⟩⟩⟩⟩
  all_goals first | assumption | omega | exact i32rng _ | exact ML_row hM (fun a ha hb => h_1.1 a (by omega) (by omega)) | exact RR_row hRR (fun a ha hb => h_1.1 a (by omega) (by omega)) | exact K _ (INV_SD (INV_CK hv0 (fun a ha hb => h_1.1 a (by omega) (by omega)) h_1.2 (CR_same hCR (h_1.1 7 (by omega) (by omega)) (h_1.1 8 (by omega) (by omega)))) h_2.1 h_2.2)

set_option maxHeartbeats 2000000 in
set_option maxRecDepth 20000 in
theorem g_law_cell {G : GG} {j nw nx gn : Nat} {g : Nat → Sh} {c : Nat → Nat → Int} {post : Option AV → AM → Prop} {BL : BB} {P : GD} {T : PT} {ii : Nat} (hG : G.2.1 < 2147483648) (hB1 : BL.1 ≤ BL.2.2.1) (hB2 : BL.2.1 ≤ BL.2.2.2)  (hv : (0 ≤ ((ii + 1 : Nat) : Int)) ∧ (((ii + 1 : Nat) : Int) < (G.2.1 : Int)) ∧ ((0 ≤ ((ii + 2 : Nat) : Int)) ∧ (((ii + 2 : Nat) : Int) < (G.2.1 : Int)) ∧ ((nw = 21 ∨ nw = 35) ∧ (EL c nw P) ∧ (GV P) ∧ (HT P T) ∧ (PR P T c) ∧ (CR P T c) ∧ (-2147483648 ≤ ((G.2.2 (((ii + 1 : Nat) : Int).toNat)).toInt) ∧ ((G.2.2 (((ii + 1 : Nat) : Int).toNat)).toInt) < 2147483648) ∧ (-2147483648 ≤ ((G.2.2 (((ii + 2 : Nat) : Int).toNat)).toInt) ∧ ((G.2.2 (((ii + 2 : Nat) : Int).toNat)).toInt) < 2147483648) ∧ (∀ c_1 : Nat → Nat → Int, ((∀ a, a < 5 ∨ 8 < a → c_1 a = c a) ∧ PR P T c_1 ∧ CR P T c_1) → (0 ≤ ((ii + 1 : Nat) : Int)) ∧ (((ii + 1 : Nat) : Int) < (G.2.1 : Int)) ∧ ((0 ≤ ((ii + 2 : Nat) : Int)) ∧ (((ii + 2 : Nat) : Int) < (G.2.1 : Int)) ∧ ((ML c_1 P) ∧ (GV P) ∧ (GC P) ∧ (GP P T) ∧ (RR P T c_1) ∧ (HT P T) ∧ (-2147483648 ≤ ((G.2.2 (((ii + 1 : Nat) : Int).toNat)).toInt) ∧ ((G.2.2 (((ii + 1 : Nat) : Int).toNat)).toInt) < 2147483648) ∧ (-2147483648 ≤ ((G.2.2 (((ii + 2 : Nat) : Int).toNat)).toInt) ∧ ((G.2.2 (((ii + 2 : Nat) : Int).toNat)).toInt) < 2147483648) ∧ (∀ c_2 : Nat → Nat → Int, (SD c_1 c_2 ∧ RR P T c_2) → SW G (j + 40) mL_law 2308 [some (vf 0), some (vr (0)), some (vr (49)), some (vi (((ii : Nat) : Int)))] [] (S nw nx g, 78 + gn, c_2) BL post))))))) :
    SW G (j + 40) mL_law 1276 [some (vf 0), some (vr (0)), some (vr (49)), some (vi (((ii : Nat) : Int)))] [] (S nw nx g, 78 + gn, c) BL post := by
  refine sw_aload_n (dL_law_15.at 40 rfl) rfl rfl ?_
  refine sw_aload_nf (dL_law_15.at 41 rfl) rfl rfl ?_
  refine sw_iload_n (dL_law_15.at 42 rfl) rfl rfl ?_
  refine sw_iconst (dL_law_15.at 43 rfl) ?_
  refine sw_iadd (dL_law_15.at 44 rfl) ?_
  refine sw_topI (y := ((ii + 1 : Nat) : Int)) (by first | rfl | (congr 1)) ?_
  refine sw_sld (dL_law_15.at 45 rfl) hG hv.1 hv.2.1 ?_
  replace hv := hv.2.2
  refine sw_aload_nf (dL_law_15.at 46 rfl) rfl rfl ?_
  refine sw_iload_n (dL_law_15.at 47 rfl) rfl rfl ?_
  refine sw_iconst (dL_law_15.at 48 rfl) ?_
  refine sw_iadd (dL_law_15.at 49 rfl) ?_
  refine sw_topI (y := ((ii + 2 : Nat) : Int)) (by first | rfl | (congr 1)) ?_
  refine sw_sld (dL_law_16.at 0 rfl) hG hv.1 hv.2.1 ?_
  replace hv := hv.2.2
  refine sw_callV (B' := BL) (As := [vi ((G.2.2 (((ii + 1 : Nat) : Int).toNat)).toInt), vi ((G.2.2 (((ii + 2 : Nat) : Int).toNat)).toInt)]) (mc := 0) (ms := 0) (dL_law_16.at 1 rfl) lk_L_148 (S_lt 0 (by decide)) (S_0 nw nx g) rfl rfl (Nat.le_of_ble_eq_true rfl) rfl hB1 hB2 ?_
  refine c_X8_cell (x := ((G.2.2 (((ii + 1 : Nat) : Int).toNat)).toInt)) (kd := ((G.2.2 (((ii + 2 : Nat) : Int).toNat)).toInt)) (P := P) (T := T) (j := j + 33) hv.1 hv.2.1 hv.2.2.1 hv.2.2.2.1 hv.2.2.2.2.1 hv.2.2.2.2.2.1 hv.2.2.2.2.2.2.1 hv.2.2.2.2.2.2.2.1 (fun c_1 h_1 => ?_)
  replace hv := hv.2.2.2.2.2.2.2.2 c_1 h_1
  refine sw_aload_n (dL_law_16.at 2 rfl) rfl rfl ?_
  refine sw_aload_nf (dL_law_16.at 3 rfl) rfl rfl ?_
  refine sw_iload_n (dL_law_16.at 4 rfl) rfl rfl ?_
  refine sw_iconst (dL_law_16.at 5 rfl) ?_
  refine sw_iadd (dL_law_16.at 6 rfl) ?_
  refine sw_topI (y := ((ii + 1 : Nat) : Int)) (by first | rfl | (congr 1)) ?_
  refine sw_sld (dL_law_16.at 7 rfl) hG hv.1 hv.2.1 ?_
  replace hv := hv.2.2
  refine sw_aload_nf (dL_law_16.at 8 rfl) rfl rfl ?_
  refine sw_iload_n (dL_law_16.at 9 rfl) rfl rfl ?_
  refine sw_iconst (dL_law_16.at 10 rfl) ?_
  refine sw_iadd (dL_law_16.at 11 rfl) ?_
  refine sw_topI (y := ((ii + 2 : Nat) : Int)) (by first | rfl | (congr 1)) ?_
  refine sw_sld (dL_law_16.at 12 rfl) hG hv.1 hv.2.1 ?_
  replace hv := hv.2.2
  refine sw_callV (B' := BL) (As := [vi ((G.2.2 (((ii + 1 : Nat) : Int).toNat)).toInt), vi ((G.2.2 (((ii + 2 : Nat) : Int).toNat)).toInt)]) (mc := 0) (ms := 0) (dL_law_16.at 13 rfl) lk_L_151 (S_lt 49 (by decide)) (S_49 nw nx g) rfl rfl (Nat.le_of_ble_eq_true rfl) rfl hB1 hB2 ?_
  refine c_X9_cell (x := ((G.2.2 (((ii + 1 : Nat) : Int).toNat)).toInt)) (kd := ((G.2.2 (((ii + 2 : Nat) : Int).toNat)).toInt)) (P := P) (T := T) (j := j + 33) hv.1 hv.2.1 hv.2.2.1 hv.2.2.2.1 hv.2.2.2.2.1 hv.2.2.2.2.2.1 hv.2.2.2.2.2.2.1 hv.2.2.2.2.2.2.2.1 (fun c_2 h_2 => ?_)
  replace hv := hv.2.2.2.2.2.2.2.2 c_2 h_2
  refine sw_icmp_same (tgt := 2308) (dL_law_16.at 14 rfl) (by decide) ?_
  exact hv

theorem cs_cell {G : GG} {j nw nx gn : Nat} {g : Nat → Sh} {c : Nat → Nat → Int} {post : Option AV → AM → Prop} {BL : BB} {P : GD} {T : PT} {ln : Nat} {bo : Nat → Nat} {n : Nat} {nb : Nat → Nat} {MT : Nat} {MA : Nat} {ii : Nat} (hG : G.2.1 < 2147483648) (hB1 : BL.1 ≤ BL.2.2.1) (hB2 : BL.2.1 ≤ BL.2.2.2) (hii : ii + 6 ≤ G.2.1) (hv : INV c nw nx P T ln bo n nb MT MA) (K : ∀ c2 : Nat → Nat → Int, INV c2 nw nx P T ln bo n nb MT MA → SW G (j + 40) mL_law 2308 [some (vf 0), some (vr (0)), some (vr (49)), some (vi (((ii : Nat) : Int)))] [] (S nw nx g, 78 + gn, c2) BL post) : SW G (j + 40) mL_law 1276 [some (vf 0), some (vr (0)), some (vr (49)), some (vi (((ii : Nat) : Int)))] [] (S nw nx g, 78 + gn, c) BL post := by
  have hv0 := hv
  obtain ⟨hIT, hIP, hIR, hIE, ⟨hwx, hSP, ⟨⟨hV, hC, hDn, hSi⟩, ⟨hOr, hMi, hSp, hBr, hBt⟩, ⟨hLa, hGP, hP0, hHT⟩, hMv⟩, hbo, hbl, hE, hM, hln⟩, ⟨hPR, hCR, hRR⟩, hIM⟩ := hv
  have hIM0 := hIM
  obtain ⟨⟨hMT60, hMA30, hMA0, hMf, hMs⟩, ⟨hM1, hM2, hM3, hM4⟩, hM5, hM6⟩ := hIM
  have hnw : nw = 21 ∨ nw = 35 := by omega
  have hRb := hC.1.1
  have hLn := hC.1.2
  have hLn2 : ∀ s, s < gR P → s + 1 < gN P := hC.1.2
  refine g_law_cell (P := P) (T := T) hG hB1 hB2 ?_
  refine ⟨?_, ?_, ⟨?_, ?_, ⟨?_, ?_, ?_, ?_, ?_, ?_, ?_, ?_, fun c_1 h_1 => ⟨?_, ?_, ⟨?_, ?_, ⟨?_, ?_, ?_, ?_, ?_, ?_, ?_, ?_, fun c_2 h_2 => ?_⟩⟩⟩⟩⟩⟩
  all_goals first | assumption | omega | exact i32rng _ | exact ML_row hM (fun a ha hb => h_1.1 a (by omega)) | exact RR_row hRR (fun a ha hb => h_1.1 a (by omega)) | exact K _ (INV_SD (INV_CK hv0 (fun a ha hb => h_1.1 a (by omega)) h_1.2.1 h_1.2.2) h_2.1 h_2.2)

