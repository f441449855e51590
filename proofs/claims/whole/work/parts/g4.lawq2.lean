set_option maxHeartbeats 2000000 in
set_option maxRecDepth 20000 in
theorem g_law_cellOf {G : GG} {j nw nx gn : Nat} {g : Nat → Sh} {c : Nat → Nat → Int} {post : Option AV → AM → Prop} {BL : BB} {P : GD} {T : PT} {ii : Nat} (hG : G.2.1 < 2147483648) (hB1 : BL.1 ≤ BL.2.2.1) (hB2 : BL.2.1 ≤ BL.2.2.2)  (hv : (0 ≤ ((ii + 1 : Nat) : Int)) ∧ (((ii + 1 : Nat) : Int) < (G.2.1 : Int)) ∧ ((0 ≤ ((ii + 2 : Nat) : Int)) ∧ (((ii + 2 : Nat) : Int) < (G.2.1 : Int)) ∧ ((nw = 21 ∨ nw = 35) ∧ (EL c nw P) ∧ (GV P) ∧ (HT P T) ∧ (PR P T c) ∧ (CR P T c) ∧ (-2147483648 ≤ ((G.2.2 (((ii + 1 : Nat) : Int).toNat)).toInt) ∧ ((G.2.2 (((ii + 1 : Nat) : Int).toNat)).toInt) < 2147483648) ∧ (-2147483648 ≤ ((G.2.2 (((ii + 2 : Nat) : Int).toNat)).toInt) ∧ ((G.2.2 (((ii + 2 : Nat) : Int).toNat)).toInt) < 2147483648) ∧ (∀ c_1 : Nat → Nat → Int, ((∀ a, a < 5 ∨ 8 < a → c_1 a = c a) ∧ PR P T c_1 ∧ CR P T c_1) → (0 ≤ ((ii + 1 : Nat) : Int)) ∧ (((ii + 1 : Nat) : Int) < (G.2.1 : Int)) ∧ ((0 ≤ ((ii + 2 : Nat) : Int)) ∧ (((ii + 2 : Nat) : Int) < (G.2.1 : Int)) ∧ ((ML c_1 P) ∧ (GV P) ∧ (GC P) ∧ (GP P T) ∧ (RR P T c_1) ∧ (HT P T) ∧ (-2147483648 ≤ ((G.2.2 (((ii + 1 : Nat) : Int).toNat)).toInt) ∧ ((G.2.2 (((ii + 1 : Nat) : Int).toNat)).toInt) < 2147483648) ∧ (-2147483648 ≤ ((G.2.2 (((ii + 2 : Nat) : Int).toNat)).toInt) ∧ ((G.2.2 (((ii + 2 : Nat) : Int).toNat)).toInt) < 2147483648) ∧ (∀ c_2 : Nat → Nat → Int, (SD c_1 c_2 ∧ RR P T c_2) → SW G (j + 40) mL_law 2308 [some (vf 0), some (vr (0)), some (vr (49)), some (vi (((ii : Nat) : Int)))] [] (S nw nx g, 78 + gn, c_2) BL post))))))) :
    SW G (j + 40) mL_law 1309 [some (vf 0), some (vr (0)), some (vr (49)), some (vi (((ii : Nat) : Int)))] [] (S nw nx g, 78 + gn, c) BL post := by
  refine sw_aload_n (dL_law_16.at 17 rfl) rfl rfl ?_
  refine sw_aload_nf (dL_law_16.at 18 rfl) rfl rfl ?_
  refine sw_iload_n (dL_law_16.at 19 rfl) rfl rfl ?_
  refine sw_iconst (dL_law_16.at 20 rfl) ?_
  refine sw_iadd (dL_law_16.at 21 rfl) ?_
  refine sw_topI (y := ((ii + 1 : Nat) : Int)) (by first | rfl | (congr 1)) ?_
  refine sw_sld (dL_law_16.at 22 rfl) hG hv.1 hv.2.1 ?_
  replace hv := hv.2.2
  refine sw_aload_nf (dL_law_16.at 23 rfl) rfl rfl ?_
  refine sw_iload_n (dL_law_16.at 24 rfl) rfl rfl ?_
  refine sw_iconst (dL_law_16.at 25 rfl) ?_
  refine sw_iadd (dL_law_16.at 26 rfl) ?_
  refine sw_topI (y := ((ii + 2 : Nat) : Int)) (by first | rfl | (congr 1)) ?_
  refine sw_sld (dL_law_16.at 27 rfl) hG hv.1 hv.2.1 ?_
  replace hv := hv.2.2
  refine sw_callV (B' := BL) (As := [vi ((G.2.2 (((ii + 1 : Nat) : Int).toNat)).toInt), vi ((G.2.2 (((ii + 2 : Nat) : Int).toNat)).toInt)]) (mc := 0) (ms := 0) (dL_law_16.at 28 rfl) lk_L_152 (S_lt 0 (by decide)) (S_0 nw nx g) rfl rfl (Nat.le_of_ble_eq_true rfl) rfl hB1 hB2 ?_
  refine c_X8_cellOf (x := ((G.2.2 (((ii + 1 : Nat) : Int).toNat)).toInt)) (kd := ((G.2.2 (((ii + 2 : Nat) : Int).toNat)).toInt)) (P := P) (T := T) (j := j + 33) hv.1 hv.2.1 hv.2.2.1 hv.2.2.2.1 hv.2.2.2.2.1 hv.2.2.2.2.2.1 hv.2.2.2.2.2.2.1 hv.2.2.2.2.2.2.2.1 (fun c_1 h_1 => ?_)
  replace hv := hv.2.2.2.2.2.2.2.2 c_1 h_1
  refine sw_aload_n (dL_law_16.at 29 rfl) rfl rfl ?_
  refine sw_aload_nf (dL_law_16.at 30 rfl) rfl rfl ?_
  refine sw_iload_n (dL_law_16.at 31 rfl) rfl rfl ?_
  refine sw_iconst (dL_law_16.at 32 rfl) ?_
  refine sw_iadd (dL_law_16.at 33 rfl) ?_
  refine sw_topI (y := ((ii + 1 : Nat) : Int)) (by first | rfl | (congr 1)) ?_
  refine sw_sld (dL_law_16.at 34 rfl) hG hv.1 hv.2.1 ?_
  replace hv := hv.2.2
  refine sw_aload_nf (dL_law_16.at 35 rfl) rfl rfl ?_
  refine sw_iload_n (dL_law_16.at 36 rfl) rfl rfl ?_
  refine sw_iconst (dL_law_16.at 37 rfl) ?_
  refine sw_iadd (dL_law_16.at 38 rfl) ?_
  refine sw_topI (y := ((ii + 2 : Nat) : Int)) (by first | rfl | (congr 1)) ?_
  refine sw_sld (dL_law_16.at 39 rfl) hG hv.1 hv.2.1 ?_
  replace hv := hv.2.2
  refine sw_callV (B' := BL) (As := [vi ((G.2.2 (((ii + 1 : Nat) : Int).toNat)).toInt), vi ((G.2.2 (((ii + 2 : Nat) : Int).toNat)).toInt)]) (mc := 0) (ms := 0) (dL_law_16.at 40 rfl) lk_L_155 (S_lt 49 (by decide)) (S_49 nw nx g) rfl rfl (Nat.le_of_ble_eq_true rfl) rfl hB1 hB2 ?_
  refine c_X9_cellOf (x := ((G.2.2 (((ii + 1 : Nat) : Int).toNat)).toInt)) (kd := ((G.2.2 (((ii + 2 : Nat) : Int).toNat)).toInt)) (P := P) (T := T) (j := j + 33) hv.1 hv.2.1 hv.2.2.1 hv.2.2.2.1 hv.2.2.2.2.1 hv.2.2.2.2.2.1 hv.2.2.2.2.2.2.1 hv.2.2.2.2.2.2.2.1 (fun c_2 h_2 => ?_)
  replace hv := hv.2.2.2.2.2.2.2.2 c_2 h_2
  refine sw_lcmp_same (tgt := 2308) (dL_law_16.at 41 rfl) (dL_law_16.at 42 rfl) (by decide) ?_
  exact hv

theorem cs_cellOf {G : GG} {j nw nx gn : Nat} {g : Nat → Sh} {c : Nat → Nat → Int} {post : Option AV → AM → Prop} {BL : BB} {P : GD} {T : PT} {ln : Nat} {bo : Nat → Nat} {n : Nat} {nb : Nat → Nat} {MT : Nat} {MA : Nat} {ii : Nat} (hG : G.2.1 < 2147483648) (hB1 : BL.1 ≤ BL.2.2.1) (hB2 : BL.2.1 ≤ BL.2.2.2) (hii : ii + 6 ≤ G.2.1) (hv : INV c nw nx P T ln bo n nb MT MA) (K : ∀ c2 : Nat → Nat → Int, INV c2 nw nx P T ln bo n nb MT MA → SW G (j + 40) mL_law 2308 [some (vf 0), some (vr (0)), some (vr (49)), some (vi (((ii : Nat) : Int)))] [] (S nw nx g, 78 + gn, c2) BL post) : SW G (j + 40) mL_law 1309 [some (vf 0), some (vr (0)), some (vr (49)), some (vi (((ii : Nat) : Int)))] [] (S nw nx g, 78 + gn, c) BL post := by
  have hv0 := hv
  obtain ⟨hIT, hIP, hIR, hIE, ⟨hwx, hSP, ⟨⟨hV, hC, hDn, hSi⟩, ⟨hOr, hMi, hSp, hBr, hBt⟩, ⟨hLa, hGP, hP0, hHT⟩, hMv⟩, hbo, hbl, hE, hM, hln⟩, ⟨hPR, hCR, hRR⟩, hIM⟩ := hv
  have hIM0 := hIM
  obtain ⟨⟨hMT60, hMA30, hMA0, hMf, hMs⟩, ⟨hM1, hM2, hM3, hM4⟩, hM5, hM6⟩ := hIM
  have hnw : nw = 21 ∨ nw = 35 := by omega
  have hRb := hC.1.1
  have hLn := hC.1.2
  have hLn2 : ∀ s, s < gR P → s + 1 < gN P := hC.1.2
  refine g_law_cellOf (P := P) (T := T) hG hB1 hB2 ?_
  refine ⟨?_, ?_, ⟨?_, ?_, ⟨?_, ?_, ?_, ?_, ?_, ?_, ?_, ?_, fun c_1 h_1 => ⟨?_, ?_, ⟨?_, ?_, ⟨?_, ?_, ?_, ?_, ?_, ?_, ?_, ?_, fun c_2 h_2 => ?_⟩⟩⟩⟩⟩⟩
  all_goals first | assumption | omega | exact i32rng _ | exact ML_row hM (fun a ha hb => h_1.1 a (by omega)) | exact RR_row hRR (fun a ha hb => h_1.1 a (by omega)) | exact K _ (INV_SD (INV_CK hv0 (fun a ha hb => h_1.1 a (by omega)) h_1.2.1 h_1.2.2) h_2.1 h_2.2)

set_option maxHeartbeats 2000000 in
set_option maxRecDepth 20000 in
theorem g_law_cellMany {G : GG} {j nw nx gn : Nat} {g : Nat → Sh} {c : Nat → Nat → Int} {post : Option AV → AM → Prop} {BL : BB} {P : GD} {T : PT} {ii : Nat} (hG : G.2.1 < 2147483648) (hB1 : BL.1 ≤ BL.2.2.1) (hB2 : BL.2.1 ≤ BL.2.2.2)  (hv : (0 ≤ ((ii + 1 : Nat) : Int)) ∧ (((ii + 1 : Nat) : Int) < (G.2.1 : Int)) ∧ ((nw = 21 ∨ nw = 35) ∧ (EL c nw P) ∧ (GV P) ∧ (HT P T) ∧ (PR P T c) ∧ (CR P T c) ∧ (-2147483648 ≤ ((G.2.2 (((ii + 1 : Nat) : Int).toNat)).toInt) ∧ ((G.2.2 (((ii + 1 : Nat) : Int).toNat)).toInt) < 2147483648) ∧ (∀ c_1 : Nat → Nat → Int, ((∀ a, a < 5 ∨ 8 < a → c_1 a = c a) ∧ PR P T c_1 ∧ CR P T c_1) → (0 ≤ ((ii + 1 : Nat) : Int)) ∧ (((ii + 1 : Nat) : Int) < (G.2.1 : Int)) ∧ ((ML c_1 P) ∧ (GV P) ∧ (GC P) ∧ (GP P T) ∧ (RR P T c_1) ∧ (HT P T) ∧ (-2147483648 ≤ ((G.2.2 (((ii + 1 : Nat) : Int).toNat)).toInt) ∧ ((G.2.2 (((ii + 1 : Nat) : Int).toNat)).toInt) < 2147483648) ∧ (∀ c_2 : Nat → Nat → Int, (SD c_1 c_2 ∧ RR P T c_2) → SW G (j + 40) mL_law 2308 [some (vf 0), some (vr (0)), some (vr (49)), some (vi (((ii : Nat) : Int)))] [] (S nw nx g, 78 + gn, c_2) BL post))))) :
    SW G (j + 40) mL_law 1343 [some (vf 0), some (vr (0)), some (vr (49)), some (vi (((ii : Nat) : Int)))] [] (S nw nx g, 78 + gn, c) BL post := by
  refine sw_aload_n (dL_law_16.at 45 rfl) rfl rfl ?_
  refine sw_aload_nf (dL_law_16.at 46 rfl) rfl rfl ?_
  refine sw_iload_n (dL_law_16.at 47 rfl) rfl rfl ?_
  refine sw_iconst (dL_law_16.at 48 rfl) ?_
  refine sw_iadd (dL_law_16.at 49 rfl) ?_
  refine sw_topI (y := ((ii + 1 : Nat) : Int)) (by first | rfl | (congr 1)) ?_
  refine sw_sld (dL_law_17.at 0 rfl) hG hv.1 hv.2.1 ?_
  replace hv := hv.2.2
  refine sw_callV (B' := BL) (As := [vi ((G.2.2 (((ii + 1 : Nat) : Int).toNat)).toInt)]) (mc := 0) (ms := 0) (dL_law_17.at 1 rfl) lk_L_156 (S_lt 0 (by decide)) (S_0 nw nx g) rfl rfl (Nat.le_of_ble_eq_true rfl) rfl hB1 hB2 ?_
  refine c_X8_cellMany (kd := ((G.2.2 (((ii + 1 : Nat) : Int).toNat)).toInt)) (P := P) (T := T) (j := j + 33) hv.1 hv.2.1 hv.2.2.1 hv.2.2.2.1 hv.2.2.2.2.1 hv.2.2.2.2.2.1 hv.2.2.2.2.2.2.1 (fun c_1 h_1 => ?_)
  replace hv := hv.2.2.2.2.2.2.2 c_1 h_1
  refine sw_aload_n (dL_law_17.at 2 rfl) rfl rfl ?_
  refine sw_aload_nf (dL_law_17.at 3 rfl) rfl rfl ?_
  refine sw_iload_n (dL_law_17.at 4 rfl) rfl rfl ?_
  refine sw_iconst (dL_law_17.at 5 rfl) ?_
  refine sw_iadd (dL_law_17.at 6 rfl) ?_
  refine sw_topI (y := ((ii + 1 : Nat) : Int)) (by first | rfl | (congr 1)) ?_
  refine sw_sld (dL_law_17.at 7 rfl) hG hv.1 hv.2.1 ?_
  replace hv := hv.2.2
  refine sw_callV (B' := BL) (As := [vi ((G.2.2 (((ii + 1 : Nat) : Int).toNat)).toInt)]) (mc := 0) (ms := 0) (dL_law_17.at 8 rfl) lk_L_159 (S_lt 49 (by decide)) (S_49 nw nx g) rfl rfl (Nat.le_of_ble_eq_true rfl) rfl hB1 hB2 ?_
  refine c_X9_cellMany (kd := ((G.2.2 (((ii + 1 : Nat) : Int).toNat)).toInt)) (P := P) (T := T) (j := j + 33) hv.1 hv.2.1 hv.2.2.1 hv.2.2.2.1 hv.2.2.2.2.1 hv.2.2.2.2.2.1 hv.2.2.2.2.2.2.1 (fun c_2 h_2 => ?_)
  replace hv := hv.2.2.2.2.2.2.2 c_2 h_2
  refine sw_icmp_same (tgt := 2308) (dL_law_17.at 9 rfl) (by decide) ?_
  exact hv

theorem cs_cellMany {G : GG} {j nw nx gn : Nat} {g : Nat → Sh} {c : Nat → Nat → Int} {post : Option AV → AM → Prop} {BL : BB} {P : GD} {T : PT} {ln : Nat} {bo : Nat → Nat} {n : Nat} {nb : Nat → Nat} {MT : Nat} {MA : Nat} {ii : Nat} (hG : G.2.1 < 2147483648) (hB1 : BL.1 ≤ BL.2.2.1) (hB2 : BL.2.1 ≤ BL.2.2.2) (hii : ii + 6 ≤ G.2.1) (hv : INV c nw nx P T ln bo n nb MT MA) (K : ∀ c2 : Nat → Nat → Int, INV c2 nw nx P T ln bo n nb MT MA → SW G (j + 40) mL_law 2308 [some (vf 0), some (vr (0)), some (vr (49)), some (vi (((ii : Nat) : Int)))] [] (S nw nx g, 78 + gn, c2) BL post) : SW G (j + 40) mL_law 1343 [some (vf 0), some (vr (0)), some (vr (49)), some (vi (((ii : Nat) : Int)))] [] (S nw nx g, 78 + gn, c) BL post := by
  have hv0 := hv
  obtain ⟨hIT, hIP, hIR, hIE, ⟨hwx, hSP, ⟨⟨hV, hC, hDn, hSi⟩, ⟨hOr, hMi, hSp, hBr, hBt⟩, ⟨hLa, hGP, hP0, hHT⟩, hMv⟩, hbo, hbl, hE, hM, hln⟩, ⟨hPR, hCR, hRR⟩, hIM⟩ := hv
  have hIM0 := hIM
  obtain ⟨⟨hMT60, hMA30, hMA0, hMf, hMs⟩, ⟨hM1, hM2, hM3, hM4⟩, hM5, hM6⟩ := hIM
  have hnw : nw = 21 ∨ nw = 35 := by omega
  have hRb := hC.1.1
  have hLn := hC.1.2
  have hLn2 : ∀ s, s < gR P → s + 1 < gN P := hC.1.2
  refine g_law_cellMany (P := P) (T := T) hG hB1 hB2 ?_
  refine ⟨?_, ?_, ⟨?_, ?_, ?_, ?_, ?_, ?_, ?_, fun c_1 h_1 => ⟨?_, ?_, ⟨?_, ?_, ?_, ?_, ?_, ?_, ?_, fun c_2 h_2 => ?_⟩⟩⟩⟩
  all_goals first | assumption | omega | exact i32rng _ | exact ML_row hM (fun a ha hb => h_1.1 a (by omega)) | exact RR_row hRR (fun a ha hb => h_1.1 a (by omega)) | exact K _ (INV_SD (INV_CK hv0 (fun a ha hb => h_1.1 a (by omega)) h_1.2.1 h_1.2.2) h_2.1 h_2.2)

set_option maxHeartbeats 2000000 in
set_option maxRecDepth 20000 in
theorem g_law_under {G : GG} {j nw nx gn : Nat} {g : Nat → Sh} {c : Nat → Nat → Int} {post : Option AV → AM → Prop} {BL : BB} {P : GD} {T : PT} {ii : Nat} (hG : G.2.1 < 2147483648) (hB1 : BL.1 ≤ BL.2.2.1) (hB2 : BL.2.1 ≤ BL.2.2.2)  (hv : (0 ≤ ((ii + 1 : Nat) : Int)) ∧ (((ii + 1 : Nat) : Int) < (G.2.1 : Int)) ∧ ((0 ≤ ((ii + 2 : Nat) : Int)) ∧ (((ii + 2 : Nat) : Int) < (G.2.1 : Int)) ∧ ((0 ≤ ((ii + 3 : Nat) : Int)) ∧ (((ii + 3 : Nat) : Int) < (G.2.1 : Int)) ∧ ((nw = 21 ∨ nw = 35) ∧ (EL c nw P) ∧ (GV P) ∧ (HT P T) ∧ (PR P T c) ∧ (CR P T c) ∧ (-2147483648 ≤ ((G.2.2 (((ii + 1 : Nat) : Int).toNat)).toInt) ∧ ((G.2.2 (((ii + 1 : Nat) : Int).toNat)).toInt) < 2147483648) ∧ (-2147483648 ≤ ((G.2.2 (((ii + 2 : Nat) : Int).toNat)).toInt) ∧ ((G.2.2 (((ii + 2 : Nat) : Int).toNat)).toInt) < 2147483648) ∧ (-2147483648 ≤ ((G.2.2 (((ii + 3 : Nat) : Int).toNat)).toInt) ∧ ((G.2.2 (((ii + 3 : Nat) : Int).toNat)).toInt) < 2147483648) ∧ (∀ c_1 : Nat → Nat → Int, ((∀ a, a < 5 ∨ 8 < a → c_1 a = c a) ∧ PR P T c_1 ∧ CR P T c_1) → (0 ≤ ((ii + 1 : Nat) : Int)) ∧ (((ii + 1 : Nat) : Int) < (G.2.1 : Int)) ∧ ((0 ≤ ((ii + 2 : Nat) : Int)) ∧ (((ii + 2 : Nat) : Int) < (G.2.1 : Int)) ∧ ((0 ≤ ((ii + 3 : Nat) : Int)) ∧ (((ii + 3 : Nat) : Int) < (G.2.1 : Int)) ∧ ((ML c_1 P) ∧ (GV P) ∧ (GC P) ∧ (GP P T) ∧ (RR P T c_1) ∧ (HT P T) ∧ (-2147483648 ≤ ((G.2.2 (((ii + 1 : Nat) : Int).toNat)).toInt) ∧ ((G.2.2 (((ii + 1 : Nat) : Int).toNat)).toInt) < 2147483648) ∧ (-2147483648 ≤ ((G.2.2 (((ii + 2 : Nat) : Int).toNat)).toInt) ∧ ((G.2.2 (((ii + 2 : Nat) : Int).toNat)).toInt) < 2147483648) ∧ (-2147483648 ≤ ((G.2.2 (((ii + 3 : Nat) : Int).toNat)).toInt) ∧ ((G.2.2 (((ii + 3 : Nat) : Int).toNat)).toInt) < 2147483648) ∧ (∀ c_2 : Nat → Nat → Int, (SD c_1 c_2 ∧ RR P T c_2) → SW G (j + 40) mL_law 2308 [some (vf 0), some (vr (0)), some (vr (49)), some (vi (((ii : Nat) : Int)))] [] (S nw nx g, 78 + gn, c_2) BL post))))))))) :
    SW G (j + 40) mL_law 1366 [some (vf 0), some (vr (0)), some (vr (49)), some (vi (((ii : Nat) : Int)))] [] (S nw nx g, 78 + gn, c) BL post := by
  refine sw_aload_n (dL_law_17.at 12 rfl) rfl rfl ?_
  refine sw_aload_nf (dL_law_17.at 13 rfl) rfl rfl ?_
  refine sw_iload_n (dL_law_17.at 14 rfl) rfl rfl ?_
  refine sw_iconst (dL_law_17.at 15 rfl) ?_
  refine sw_iadd (dL_law_17.at 16 rfl) ?_
  refine sw_topI (y := ((ii + 1 : Nat) : Int)) (by first | rfl | (congr 1)) ?_
  refine sw_sld (dL_law_17.at 17 rfl) hG hv.1 hv.2.1 ?_
  replace hv := hv.2.2
  refine sw_aload_nf (dL_law_17.at 18 rfl) rfl rfl ?_
  refine sw_iload_n (dL_law_17.at 19 rfl) rfl rfl ?_
  refine sw_iconst (dL_law_17.at 20 rfl) ?_
  refine sw_iadd (dL_law_17.at 21 rfl) ?_
  refine sw_topI (y := ((ii + 2 : Nat) : Int)) (by first | rfl | (congr 1)) ?_
  refine sw_sld (dL_law_17.at 22 rfl) hG hv.1 hv.2.1 ?_
  replace hv := hv.2.2
  refine sw_aload_nf (dL_law_17.at 23 rfl) rfl rfl ?_
  refine sw_iload_n (dL_law_17.at 24 rfl) rfl rfl ?_
  refine sw_iconst (dL_law_17.at 25 rfl) ?_
  refine sw_iadd (dL_law_17.at 26 rfl) ?_
  refine sw_topI (y := ((ii + 3 : Nat) : Int)) (by first | rfl | (congr 1)) ?_
  refine sw_sld (dL_law_17.at 27 rfl) hG hv.1 hv.2.1 ?_
  replace hv := hv.2.2
  refine sw_callV (B' := BL) (As := [vi ((G.2.2 (((ii + 1 : Nat) : Int).toNat)).toInt), vi ((G.2.2 (((ii + 2 : Nat) : Int).toNat)).toInt), vi ((G.2.2 (((ii + 3 : Nat) : Int).toNat)).toInt)]) (mc := 0) (ms := 0) (dL_law_17.at 28 rfl) lk_L_160 (S_lt 0 (by decide)) (S_0 nw nx g) rfl rfl (Nat.le_of_ble_eq_true rfl) rfl hB1 hB2 ?_
  refine c_X8_under (x := ((G.2.2 (((ii + 1 : Nat) : Int).toNat)).toInt)) (y := ((G.2.2 (((ii + 2 : Nat) : Int).toNat)).toInt)) (kd := ((G.2.2 (((ii + 3 : Nat) : Int).toNat)).toInt)) (P := P) (T := T) (j := j + 33) hv.1 hv.2.1 hv.2.2.1 hv.2.2.2.1 hv.2.2.2.2.1 hv.2.2.2.2.2.1 hv.2.2.2.2.2.2.1 hv.2.2.2.2.2.2.2.1 hv.2.2.2.2.2.2.2.2.1 (fun c_1 h_1 => ?_)
  replace hv := hv.2.2.2.2.2.2.2.2.2 c_1 h_1
  refine sw_aload_n (dL_law_17.at 29 rfl) rfl rfl ?_
  refine sw_aload_nf (dL_law_17.at 30 rfl) rfl rfl ?_
  refine sw_iload_n (dL_law_17.at 31 rfl) rfl rfl ?_
  refine sw_iconst (dL_law_17.at 32 rfl) ?_
  refine sw_iadd (dL_law_17.at 33 rfl) ?_
  refine sw_topI (y := ((ii + 1 : Nat) : Int)) (by first | rfl | (congr 1)) ?_
  refine sw_sld (dL_law_17.at 34 rfl) hG hv.1 hv.2.1 ?_
  replace hv := hv.2.2
  refine sw_aload_nf (dL_law_17.at 35 rfl) rfl rfl ?_
  refine sw_iload_n (dL_law_17.at 36 rfl) rfl rfl ?_
  refine sw_iconst (dL_law_17.at 37 rfl) ?_
  refine sw_iadd (dL_law_17.at 38 rfl) ?_
  refine sw_topI (y := ((ii + 2 : Nat) : Int)) (by first | rfl | (congr 1)) ?_
  refine sw_sld (dL_law_17.at 39 rfl) hG hv.1 hv.2.1 ?_
  replace hv := hv.2.2
  refine sw_aload_nf (dL_law_17.at 40 rfl) rfl rfl ?_
  refine sw_iload_n (dL_law_17.at 41 rfl) rfl rfl ?_
  refine sw_iconst (dL_law_17.at 42 rfl) ?_
  refine sw_iadd (dL_law_17.at 43 rfl) ?_
  refine sw_topI (y := ((ii + 3 : Nat) : Int)) (by first | rfl | (congr 1)) ?_
  refine sw_sld (dL_law_17.at 44 rfl) hG hv.1 hv.2.1 ?_
  replace hv := hv.2.2
  refine sw_callV (B' := BL) (As := [vi ((G.2.2 (((ii + 1 : Nat) : Int).toNat)).toInt), vi ((G.2.2 (((ii + 2 : Nat) : Int).toNat)).toInt), vi ((G.2.2 (((ii + 3 : Nat) : Int).toNat)).toInt)]) (mc := 0) (ms := 0) (dL_law_17.at 45 rfl) lk_L_163 (S_lt 49 (by decide)) (S_49 nw nx g) rfl rfl (Nat.le_of_ble_eq_true rfl) rfl hB1 hB2 ?_
  refine c_X9_under (x := ((G.2.2 (((ii + 1 : Nat) : Int).toNat)).toInt)) (y := ((G.2.2 (((ii + 2 : Nat) : Int).toNat)).toInt)) (kd := ((G.2.2 (((ii + 3 : Nat) : Int).toNat)).toInt)) (P := P) (T := T) (j := j + 33) hv.1 hv.2.1 hv.2.2.1 hv.2.2.2.1 hv.2.2.2.2.1 hv.2.2.2.2.2.1 hv.2.2.2.2.2.2.1 hv.2.2.2.2.2.2.2.1 hv.2.2.2.2.2.2.2.2.1 (fun c_2 h_2 => ?_)
  replace hv := hv.2.2.2.2.2.2.2.2.2 c_2 h_2
  refine sw_icmp_same (tgt := 2308) (dL_law_17.at 46 rfl) (by decide) ?_
  exact hv

theorem cs_under {G : GG} {j nw nx gn : Nat} {g : Nat → Sh} {c : Nat → Nat → Int} {post : Option AV → AM → Prop} {BL : BB} {P : GD} {T : PT} {ln : Nat} {bo : Nat → Nat} {n : Nat} {nb : Nat → Nat} {MT : Nat} {MA : Nat} {ii : Nat} (hG : G.2.1 < 2147483648) (hB1 : BL.1 ≤ BL.2.2.1) (hB2 : BL.2.1 ≤ BL.2.2.2) (hii : ii + 6 ≤ G.2.1) (hv : INV c nw nx P T ln bo n nb MT MA) (K : ∀ c2 : Nat → Nat → Int, INV c2 nw nx P T ln bo n nb MT MA → SW G (j + 40) mL_law 2308 [some (vf 0), some (vr (0)), some (vr (49)), some (vi (((ii : Nat) : Int)))] [] (S nw nx g, 78 + gn, c2) BL post) : SW G (j + 40) mL_law 1366 [some (vf 0), some (vr (0)), some (vr (49)), some (vi (((ii : Nat) : Int)))] [] (S nw nx g, 78 + gn, c) BL post := by
  have hv0 := hv
  obtain ⟨hIT, hIP, hIR, hIE, ⟨hwx, hSP, ⟨⟨hV, hC, hDn, hSi⟩, ⟨hOr, hMi, hSp, hBr, hBt⟩, ⟨hLa, hGP, hP0, hHT⟩, hMv⟩, hbo, hbl, hE, hM, hln⟩, ⟨hPR, hCR, hRR⟩, hIM⟩ := hv
  have hIM0 := hIM
  obtain ⟨⟨hMT60, hMA30, hMA0, hMf, hMs⟩, ⟨hM1, hM2, hM3, hM4⟩, hM5, hM6⟩ := hIM
  have hnw : nw = 21 ∨ nw = 35 := by omega
  have hRb := hC.1.1
  have hLn := hC.1.2
  have hLn2 : ∀ s, s < gR P → s + 1 < gN P := hC.1.2
  refine g_law_under (P := P) (T := T) hG hB1 hB2 ?_
  refine ⟨?_, ?_, ⟨?_, ?_, ⟨?_, ?_, ⟨?_, ?_, ?_, ?_, ?_, ?_, ?_, ?_, ?_, fun c_1 h_1 => ⟨?_, ?_, ⟨?_, ?_, ⟨?_, ?_, ⟨?_, ?_, ?_, ?_, ?_, ?_, ?_, ?_, ?_, fun c_2 h_2 => ?_⟩⟩⟩⟩⟩⟩⟩⟩
  all_goals first | assumption | omega | exact i32rng _ | exact ML_row hM (fun a ha hb => h_1.1 a (by omega)) | exact RR_row hRR (fun a ha hb => h_1.1 a (by omega)) | exact K _ (INV_SD (INV_CK hv0 (fun a ha hb => h_1.1 a (by omega)) h_1.2.1 h_1.2.2) h_2.1 h_2.2)

set_option maxHeartbeats 2000000 in
set_option maxRecDepth 20000 in
theorem g_law_product {G : GG} {j nw nx gn : Nat} {g : Nat → Sh} {c : Nat → Nat → Int} {post : Option AV → AM → Prop} {BL : BB} {P : GD} {T : PT} {ii : Nat} (hG : G.2.1 < 2147483648) (hB1 : BL.1 ≤ BL.2.2.1) (hB2 : BL.2.1 ≤ BL.2.2.2)  (hv : (0 ≤ ((ii + 1 : Nat) : Int)) ∧ (((ii + 1 : Nat) : Int) < (G.2.1 : Int)) ∧ ((0 ≤ ((ii + 2 : Nat) : Int)) ∧ (((ii + 2 : Nat) : Int) < (G.2.1 : Int)) ∧ ((0 ≤ ((ii + 3 : Nat) : Int)) ∧ (((ii + 3 : Nat) : Int) < (G.2.1 : Int)) ∧ ((nw = 21 ∨ nw = 35) ∧ (EL c nw P) ∧ (GV P) ∧ (HT P T) ∧ (PR P T c) ∧ (∀ s, s < gR P → s + 1 < gN P) ∧ (-2147483648 ≤ ((G.2.2 (((ii + 1 : Nat) : Int).toNat)).toInt) ∧ ((G.2.2 (((ii + 1 : Nat) : Int).toNat)).toInt) < 2147483648) ∧ (-2147483648 ≤ ((G.2.2 (((ii + 2 : Nat) : Int).toNat)).toInt) ∧ ((G.2.2 (((ii + 2 : Nat) : Int).toNat)).toInt) < 2147483648) ∧ (-2147483648 ≤ ((G.2.2 (((ii + 3 : Nat) : Int).toNat)).toInt) ∧ ((G.2.2 (((ii + 3 : Nat) : Int).toNat)).toInt) < 2147483648) ∧ (∀ c_1 : Nat → Nat → Int, ((∀ a, a ≠ 5 → a ≠ 6 → c_1 a = c a) ∧ PR P T c_1) → (0 ≤ ((ii + 1 : Nat) : Int)) ∧ (((ii + 1 : Nat) : Int) < (G.2.1 : Int)) ∧ ((0 ≤ ((ii + 2 : Nat) : Int)) ∧ (((ii + 2 : Nat) : Int) < (G.2.1 : Int)) ∧ ((0 ≤ ((ii + 3 : Nat) : Int)) ∧ (((ii + 3 : Nat) : Int) < (G.2.1 : Int)) ∧ ((ML c_1 P) ∧ (GV P) ∧ (GC P) ∧ (GP P T) ∧ (RR P T c_1) ∧ (-2147483648 ≤ ((G.2.2 (((ii + 1 : Nat) : Int).toNat)).toInt) ∧ ((G.2.2 (((ii + 1 : Nat) : Int).toNat)).toInt) < 2147483648) ∧ (-2147483648 ≤ ((G.2.2 (((ii + 2 : Nat) : Int).toNat)).toInt) ∧ ((G.2.2 (((ii + 2 : Nat) : Int).toNat)).toInt) < 2147483648) ∧ (-2147483648 ≤ ((G.2.2 (((ii + 3 : Nat) : Int).toNat)).toInt) ∧ ((G.2.2 (((ii + 3 : Nat) : Int).toNat)).toInt) < 2147483648) ∧ (∀ c_2 : Nat → Nat → Int, (SD c_1 c_2 ∧ RR P T c_2) → SW G (j + 40) mL_law 2308 [some (vf 0), some (vr (0)), some (vr (49)), some (vi (((ii : Nat) : Int)))] [] (S nw nx g, 78 + gn, c_2) BL post))))))))) :
    SW G (j + 40) mL_law 1409 [some (vf 0), some (vr (0)), some (vr (49)), some (vi (((ii : Nat) : Int)))] [] (S nw nx g, 78 + gn, c) BL post := by
  refine sw_aload_n (dL_law_17.at 49 rfl) rfl rfl ?_
  refine sw_aload_nf (dL_law_18.at 0 rfl) rfl rfl ?_
  refine sw_iload_n (dL_law_18.at 1 rfl) rfl rfl ?_
  refine sw_iconst (dL_law_18.at 2 rfl) ?_
  refine sw_iadd (dL_law_18.at 3 rfl) ?_
  refine sw_topI (y := ((ii + 1 : Nat) : Int)) (by first | rfl | (congr 1)) ?_
  refine sw_sld (dL_law_18.at 4 rfl) hG hv.1 hv.2.1 ?_
  replace hv := hv.2.2
  refine sw_aload_nf (dL_law_18.at 5 rfl) rfl rfl ?_
  refine sw_iload_n (dL_law_18.at 6 rfl) rfl rfl ?_
  refine sw_iconst (dL_law_18.at 7 rfl) ?_
  refine sw_iadd (dL_law_18.at 8 rfl) ?_
  refine sw_topI (y := ((ii + 2 : Nat) : Int)) (by first | rfl | (congr 1)) ?_
  refine sw_sld (dL_law_18.at 9 rfl) hG hv.1 hv.2.1 ?_
  replace hv := hv.2.2
  refine sw_aload_nf (dL_law_18.at 10 rfl) rfl rfl ?_
  refine sw_iload_n (dL_law_18.at 11 rfl) rfl rfl ?_
  refine sw_iconst (dL_law_18.at 12 rfl) ?_
  refine sw_iadd (dL_law_18.at 13 rfl) ?_
  refine sw_topI (y := ((ii + 3 : Nat) : Int)) (by first | rfl | (congr 1)) ?_
  refine sw_sld (dL_law_18.at 14 rfl) hG hv.1 hv.2.1 ?_
  replace hv := hv.2.2
  refine sw_callV (B' := BL) (As := [vi ((G.2.2 (((ii + 1 : Nat) : Int).toNat)).toInt), vi ((G.2.2 (((ii + 2 : Nat) : Int).toNat)).toInt), vi ((G.2.2 (((ii + 3 : Nat) : Int).toNat)).toInt)]) (mc := 0) (ms := 0) (dL_law_18.at 15 rfl) lk_L_164 (S_lt 0 (by decide)) (S_0 nw nx g) rfl rfl (Nat.le_of_ble_eq_true rfl) rfl hB1 hB2 ?_
  refine c_X8_product (s := ((G.2.2 (((ii + 1 : Nat) : Int).toNat)).toInt)) (w := ((G.2.2 (((ii + 2 : Nat) : Int).toNat)).toInt)) (z := ((G.2.2 (((ii + 3 : Nat) : Int).toNat)).toInt)) (P := P) (T := T) (j := j + 34) hv.1 hv.2.1 hv.2.2.1 hv.2.2.2.1 hv.2.2.2.2.1 hv.2.2.2.2.2.1 hv.2.2.2.2.2.2.1 hv.2.2.2.2.2.2.2.1 hv.2.2.2.2.2.2.2.2.1 (fun c_1 h_1 => ?_)
  replace hv := hv.2.2.2.2.2.2.2.2.2 c_1 h_1
  refine sw_aload_n (dL_law_18.at 16 rfl) rfl rfl ?_
  refine sw_aload_nf (dL_law_18.at 17 rfl) rfl rfl ?_
  refine sw_iload_n (dL_law_18.at 18 rfl) rfl rfl ?_
  refine sw_iconst (dL_law_18.at 19 rfl) ?_
  refine sw_iadd (dL_law_18.at 20 rfl) ?_
  refine sw_topI (y := ((ii + 1 : Nat) : Int)) (by first | rfl | (congr 1)) ?_
  refine sw_sld (dL_law_18.at 21 rfl) hG hv.1 hv.2.1 ?_
  replace hv := hv.2.2
  refine sw_aload_nf (dL_law_18.at 22 rfl) rfl rfl ?_
  refine sw_iload_n (dL_law_18.at 23 rfl) rfl rfl ?_
  refine sw_iconst (dL_law_18.at 24 rfl) ?_
  refine sw_iadd (dL_law_18.at 25 rfl) ?_
  refine sw_topI (y := ((ii + 2 : Nat) : Int)) (by first | rfl | (congr 1)) ?_
  refine sw_sld (dL_law_18.at 26 rfl) hG hv.1 hv.2.1 ?_
  replace hv := hv.2.2
  refine sw_aload_nf (dL_law_18.at 27 rfl) rfl rfl ?_
  refine sw_iload_n (dL_law_18.at 28 rfl) rfl rfl ?_
  refine sw_iconst (dL_law_18.at 29 rfl) ?_
  refine sw_iadd (dL_law_18.at 30 rfl) ?_
  refine sw_topI (y := ((ii + 3 : Nat) : Int)) (by first | rfl | (congr 1)) ?_
  refine sw_sld (dL_law_18.at 31 rfl) hG hv.1 hv.2.1 ?_
  replace hv := hv.2.2
  refine sw_callV (B' := BL) (As := [vi ((G.2.2 (((ii + 1 : Nat) : Int).toNat)).toInt), vi ((G.2.2 (((ii + 2 : Nat) : Int).toNat)).toInt), vi ((G.2.2 (((ii + 3 : Nat) : Int).toNat)).toInt)]) (mc := 0) (ms := 0) (dL_law_18.at 32 rfl) lk_L_167 (S_lt 49 (by decide)) (S_49 nw nx g) rfl rfl (Nat.le_of_ble_eq_true rfl) rfl hB1 hB2 ?_
  refine c_X9_product_ (s := ((G.2.2 (((ii + 1 : Nat) : Int).toNat)).toInt)) (w := ((G.2.2 (((ii + 2 : Nat) : Int).toNat)).toInt)) (u := ((G.2.2 (((ii + 3 : Nat) : Int).toNat)).toInt)) (P := P) (T := T) (j := j + 34) hv.1 hv.2.1 hv.2.2.1 hv.2.2.2.1 hv.2.2.2.2.1 hv.2.2.2.2.2.1 hv.2.2.2.2.2.2.1 hv.2.2.2.2.2.2.2.1 (fun c_2 h_2 => ?_)
  replace hv := hv.2.2.2.2.2.2.2.2 c_2 h_2
  refine sw_icmp_same (tgt := 2308) (dL_law_18.at 33 rfl) (by decide) ?_
  exact hv

theorem cs_product {G : GG} {j nw nx gn : Nat} {g : Nat → Sh} {c : Nat → Nat → Int} {post : Option AV → AM → Prop} {BL : BB} {P : GD} {T : PT} {ln : Nat} {bo : Nat → Nat} {n : Nat} {nb : Nat → Nat} {MT : Nat} {MA : Nat} {ii : Nat} (hG : G.2.1 < 2147483648) (hB1 : BL.1 ≤ BL.2.2.1) (hB2 : BL.2.1 ≤ BL.2.2.2) (hii : ii + 6 ≤ G.2.1) (hv : INV c nw nx P T ln bo n nb MT MA) (K : ∀ c2 : Nat → Nat → Int, INV c2 nw nx P T ln bo n nb MT MA → SW G (j + 40) mL_law 2308 [some (vf 0), some (vr (0)), some (vr (49)), some (vi (((ii : Nat) : Int)))] [] (S nw nx g, 78 + gn, c2) BL post) : SW G (j + 40) mL_law 1409 [some (vf 0), some (vr (0)), some (vr (49)), some (vi (((ii : Nat) : Int)))] [] (S nw nx g, 78 + gn, c) BL post := by
  have hv0 := hv
  obtain ⟨hIT, hIP, hIR, hIE, ⟨hwx, hSP, ⟨⟨hV, hC, hDn, hSi⟩, ⟨hOr, hMi, hSp, hBr, hBt⟩, ⟨hLa, hGP, hP0, hHT⟩, hMv⟩, hbo, hbl, hE, hM, hln⟩, ⟨hPR, hCR, hRR⟩, hIM⟩ := hv
  have hIM0 := hIM
  obtain ⟨⟨hMT60, hMA30, hMA0, hMf, hMs⟩, ⟨hM1, hM2, hM3, hM4⟩, hM5, hM6⟩ := hIM
  have hnw : nw = 21 ∨ nw = 35 := by omega
  have hRb := hC.1.1
  have hLn := hC.1.2
  have hLn2 : ∀ s, s < gR P → s + 1 < gN P := hC.1.2
  refine g_law_product (P := P) (T := T) hG hB1 hB2 ?_
  refine ⟨?_, ?_, ⟨?_, ?_, ⟨?_, ?_, ⟨?_, ?_, ?_, ?_, ?_, ?_, ?_, ?_, ?_, fun c_1 h_1 => ⟨?_, ?_, ⟨?_, ?_, ⟨?_, ?_, ⟨?_, ?_, ?_, ?_, ?_, ?_, ?_, ?_, fun c_2 h_2 => ?_⟩⟩⟩⟩⟩⟩⟩⟩
  all_goals first | assumption | omega | exact i32rng _ | exact ML_row hM (fun a ha hb => h_1.1 a (by omega) (by omega)) | exact RR_row hRR (fun a ha hb => h_1.1 a (by omega) (by omega)) | exact K _ (INV_SD (INV_CK hv0 (fun a ha hb => h_1.1 a (by omega) (by omega)) h_1.2 (CR_same hCR (h_1.1 7 (by omega) (by omega)) (h_1.1 8 (by omega) (by omega)))) h_2.1 h_2.2)

set_option maxHeartbeats 2000000 in
set_option maxRecDepth 20000 in
theorem g_law_least {G : GG} {j nw nx gn : Nat} {g : Nat → Sh} {c : Nat → Nat → Int} {post : Option AV → AM → Prop} {BL : BB} {P : GD} {ii : Nat} (hG : G.2.1 < 2147483648) (hB1 : BL.1 ≤ BL.2.2.1) (hB2 : BL.2.1 ≤ BL.2.2.2)  (hv : (0 ≤ ((ii + 1 : Nat) : Int)) ∧ (((ii + 1 : Nat) : Int) < (G.2.1 : Int)) ∧ ((0 ≤ ((ii + 2 : Nat) : Int)) ∧ (((ii + 2 : Nat) : Int) < (G.2.1 : Int)) ∧ ((nw = 21 ∨ nw = 35) ∧ (EL c nw P) ∧ (GV P) ∧ (hRb P) ∧ (-2147483648 ≤ ((G.2.2 (((ii + 1 : Nat) : Int).toNat)).toInt) ∧ ((G.2.2 (((ii + 1 : Nat) : Int).toNat)).toInt) < 2147483648) ∧ (-2147483648 ≤ ((G.2.2 (((ii + 2 : Nat) : Int).toNat)).toInt) ∧ ((G.2.2 (((ii + 2 : Nat) : Int).toNat)).toInt) < 2147483648) ∧ ((0 ≤ ((ii + 1 : Nat) : Int)) ∧ (((ii + 1 : Nat) : Int) < (G.2.1 : Int)) ∧ ((0 ≤ ((ii + 2 : Nat) : Int)) ∧ (((ii + 2 : Nat) : Int) < (G.2.1 : Int)) ∧ ((ML c P) ∧ (GV P) ∧ (GC P) ∧ (-2147483648 ≤ ((G.2.2 (((ii + 1 : Nat) : Int).toNat)).toInt) ∧ ((G.2.2 (((ii + 1 : Nat) : Int).toNat)).toInt) < 2147483648) ∧ (-2147483648 ≤ ((G.2.2 (((ii + 2 : Nat) : Int).toNat)).toInt) ∧ ((G.2.2 (((ii + 2 : Nat) : Int).toNat)).toInt) < 2147483648) ∧ (∀ c_1 : Nat → Nat → Int, SC c c_1 → SW G (j + 40) mL_law 2308 [some (vf 0), some (vr (0)), some (vr (49)), some (vi (((ii : Nat) : Int)))] [] (S nw nx g, 78 + gn, c_1) BL post))))))) :
    SW G (j + 40) mL_law 1452 [some (vf 0), some (vr (0)), some (vr (49)), some (vi (((ii : Nat) : Int)))] [] (S nw nx g, 78 + gn, c) BL post := by
  refine sw_aload_n (dL_law_18.at 36 rfl) rfl rfl ?_
  refine sw_aload_nf (dL_law_18.at 37 rfl) rfl rfl ?_
  refine sw_iload_n (dL_law_18.at 38 rfl) rfl rfl ?_
  refine sw_iconst (dL_law_18.at 39 rfl) ?_
  refine sw_iadd (dL_law_18.at 40 rfl) ?_
  refine sw_topI (y := ((ii + 1 : Nat) : Int)) (by first | rfl | (congr 1)) ?_
  refine sw_sld (dL_law_18.at 41 rfl) hG hv.1 hv.2.1 ?_
  replace hv := hv.2.2
  refine sw_aload_nf (dL_law_18.at 42 rfl) rfl rfl ?_
  refine sw_iload_n (dL_law_18.at 43 rfl) rfl rfl ?_
  refine sw_iconst (dL_law_18.at 44 rfl) ?_
  refine sw_iadd (dL_law_18.at 45 rfl) ?_
  refine sw_topI (y := ((ii + 2 : Nat) : Int)) (by first | rfl | (congr 1)) ?_
  refine sw_sld (dL_law_18.at 46 rfl) hG hv.1 hv.2.1 ?_
  replace hv := hv.2.2
  refine sw_callV (B' := BL) (As := [vi ((G.2.2 (((ii + 1 : Nat) : Int).toNat)).toInt), vi ((G.2.2 (((ii + 2 : Nat) : Int).toNat)).toInt)]) (mc := 0) (ms := 0) (dL_law_18.at 47 rfl) lk_L_168 (S_lt 0 (by decide)) (S_0 nw nx g) rfl rfl (Nat.le_of_ble_eq_true rfl) rfl hB1 hB2 ?_
  refine c_X8_least (x := ((G.2.2 (((ii + 1 : Nat) : Int).toNat)).toInt)) (s := ((G.2.2 (((ii + 2 : Nat) : Int).toNat)).toInt)) (P := P) (j := j + 37) hv.1 hv.2.1 hv.2.2.1 hv.2.2.2.1 hv.2.2.2.2.1 hv.2.2.2.2.2.1 ?_
  replace hv := hv.2.2.2.2.2.2
  refine sw_aload_n (dL_law_18.at 48 rfl) rfl rfl ?_
  refine sw_aload_nf (dL_law_18.at 49 rfl) rfl rfl ?_
  refine sw_iload_n (dL_law_19.at 0 rfl) rfl rfl ?_
  refine sw_iconst (dL_law_19.at 1 rfl) ?_
  refine sw_iadd (dL_law_19.at 2 rfl) ?_
  refine sw_topI (y := ((ii + 1 : Nat) : Int)) (by first | rfl | (congr 1)) ?_
  refine sw_sld (dL_law_19.at 3 rfl) hG hv.1 hv.2.1 ?_
  replace hv := hv.2.2
  refine sw_aload_nf (dL_law_19.at 4 rfl) rfl rfl ?_
  refine sw_iload_n (dL_law_19.at 5 rfl) rfl rfl ?_
  refine sw_iconst (dL_law_19.at 6 rfl) ?_
  refine sw_iadd (dL_law_19.at 7 rfl) ?_
  refine sw_topI (y := ((ii + 2 : Nat) : Int)) (by first | rfl | (congr 1)) ?_
  refine sw_sld (dL_law_19.at 8 rfl) hG hv.1 hv.2.1 ?_
  replace hv := hv.2.2
  refine sw_callV (B' := BL) (As := [vi ((G.2.2 (((ii + 1 : Nat) : Int).toNat)).toInt), vi ((G.2.2 (((ii + 2 : Nat) : Int).toNat)).toInt)]) (mc := 0) (ms := 0) (dL_law_19.at 9 rfl) lk_L_171 (S_lt 49 (by decide)) (S_49 nw nx g) rfl rfl (Nat.le_of_ble_eq_true rfl) rfl hB1 hB2 ?_
  refine c_X9_least (x := ((G.2.2 (((ii + 1 : Nat) : Int).toNat)).toInt)) (s := ((G.2.2 (((ii + 2 : Nat) : Int).toNat)).toInt)) (P := P) (j := j + 36) hv.1 hv.2.1 hv.2.2.1 hv.2.2.2.1 hv.2.2.2.2.1 (fun c_1 h_1 => ?_)
  replace hv := hv.2.2.2.2.2 c_1 h_1
  refine sw_icmp_same (tgt := 2308) (dL_law_19.at 10 rfl) (by decide) ?_
  exact hv

theorem cs_least {G : GG} {j nw nx gn : Nat} {g : Nat → Sh} {c : Nat → Nat → Int} {post : Option AV → AM → Prop} {BL : BB} {P : GD} {T : PT} {ln : Nat} {bo : Nat → Nat} {n : Nat} {nb : Nat → Nat} {MT : Nat} {MA : Nat} {ii : Nat} (hG : G.2.1 < 2147483648) (hB1 : BL.1 ≤ BL.2.2.1) (hB2 : BL.2.1 ≤ BL.2.2.2) (hii : ii + 6 ≤ G.2.1) (hv : INV c nw nx P T ln bo n nb MT MA) (K : ∀ c2 : Nat → Nat → Int, INV c2 nw nx P T ln bo n nb MT MA → SW G (j + 40) mL_law 2308 [some (vf 0), some (vr (0)), some (vr (49)), some (vi (((ii : Nat) : Int)))] [] (S nw nx g, 78 + gn, c2) BL post) : SW G (j + 40) mL_law 1452 [some (vf 0), some (vr (0)), some (vr (49)), some (vi (((ii : Nat) : Int)))] [] (S nw nx g, 78 + gn, c) BL post := by
  have hv0 := hv
  obtain ⟨hIT, hIP, hIR, hIE, ⟨hwx, hSP, ⟨⟨hV, hC, hDn, hSi⟩, ⟨hOr, hMi, hSp, hBr, hBt⟩, ⟨hLa, hGP, hP0, hHT⟩, hMv⟩, hbo, hbl, hE, hM, hln⟩, ⟨hPR, hCR, hRR⟩, hIM⟩ := hv
  have hIM0 := hIM
  obtain ⟨⟨hMT60, hMA30, hMA0, hMf, hMs⟩, ⟨hM1, hM2, hM3, hM4⟩, hM5, hM6⟩ := hIM
  have hnw : nw = 21 ∨ nw = 35 := by omega
  have hRb := hC.1.1
  have hLn := hC.1.2
  have hLn2 : ∀ s, s < gR P → s + 1 < gN P := hC.1.2
  refine g_law_least (P := P) hG hB1 hB2 ?_
  refine ⟨?_, ?_, ⟨?_, ?_, ⟨?_, ?_, ?_, ?_, ?_, ?_, ⟨?_, ?_, ⟨?_, ?_, ⟨?_, ?_, ?_, ?_, ?_, fun c_1 h_1 => ?_⟩⟩⟩⟩⟩⟩
  all_goals first | assumption | omega | exact i32rng _ | exact K _ (INV_SC hv0 h_1)

set_option maxHeartbeats 2000000 in
set_option maxRecDepth 20000 in
theorem g_law_longest {G : GG} {j nw nx gn : Nat} {g : Nat → Sh} {c : Nat → Nat → Int} {post : Option AV → AM → Prop} {BL : BB} {P : GD} {ii : Nat} (hG : G.2.1 < 2147483648) (hB1 : BL.1 ≤ BL.2.2.1) (hB2 : BL.2.1 ≤ BL.2.2.2)  (hv : (0 ≤ ((ii + 1 : Nat) : Int)) ∧ (((ii + 1 : Nat) : Int) < (G.2.1 : Int)) ∧ ((nw = 21 ∨ nw = 35) ∧ (EL c nw P) ∧ (GV P) ∧ (hRb P) ∧ (-2147483648 ≤ ((G.2.2 (((ii + 1 : Nat) : Int).toNat)).toInt) ∧ ((G.2.2 (((ii + 1 : Nat) : Int).toNat)).toInt) < 2147483648) ∧ ((0 ≤ ((ii + 1 : Nat) : Int)) ∧ (((ii + 1 : Nat) : Int) < (G.2.1 : Int)) ∧ ((ML c P) ∧ (GV P) ∧ (GC P) ∧ (-2147483648 ≤ ((G.2.2 (((ii + 1 : Nat) : Int).toNat)).toInt) ∧ ((G.2.2 (((ii + 1 : Nat) : Int).toNat)).toInt) < 2147483648) ∧ (∀ c_1 : Nat → Nat → Int, SC c c_1 → SW G (j + 40) mL_law 2308 [some (vf 0), some (vr (0)), some (vr (49)), some (vi (((ii : Nat) : Int)))] [] (S nw nx g, 78 + gn, c_1) BL post))))) :
    SW G (j + 40) mL_law 1485 [some (vf 0), some (vr (0)), some (vr (49)), some (vi (((ii : Nat) : Int)))] [] (S nw nx g, 78 + gn, c) BL post := by
  refine sw_aload_n (dL_law_19.at 13 rfl) rfl rfl ?_
  refine sw_aload_nf (dL_law_19.at 14 rfl) rfl rfl ?_
  refine sw_iload_n (dL_law_19.at 15 rfl) rfl rfl ?_
  refine sw_iconst (dL_law_19.at 16 rfl) ?_
  refine sw_iadd (dL_law_19.at 17 rfl) ?_
  refine sw_topI (y := ((ii + 1 : Nat) : Int)) (by first | rfl | (congr 1)) ?_
  refine sw_sld (dL_law_19.at 18 rfl) hG hv.1 hv.2.1 ?_
  replace hv := hv.2.2
  refine sw_callV (B' := BL) (As := [vi ((G.2.2 (((ii + 1 : Nat) : Int).toNat)).toInt)]) (mc := 0) (ms := 0) (dL_law_19.at 19 rfl) lk_L_172 (S_lt 0 (by decide)) (S_0 nw nx g) rfl rfl (Nat.le_of_ble_eq_true rfl) rfl hB1 hB2 ?_
  refine c_X8_longest (s := ((G.2.2 (((ii + 1 : Nat) : Int).toNat)).toInt)) (P := P) (j := j + 37) hv.1 hv.2.1 hv.2.2.1 hv.2.2.2.1 hv.2.2.2.2.1 ?_
  replace hv := hv.2.2.2.2.2
  refine sw_aload_n (dL_law_19.at 20 rfl) rfl rfl ?_
  refine sw_aload_nf (dL_law_19.at 21 rfl) rfl rfl ?_
  refine sw_iload_n (dL_law_19.at 22 rfl) rfl rfl ?_
  refine sw_iconst (dL_law_19.at 23 rfl) ?_
  refine sw_iadd (dL_law_19.at 24 rfl) ?_
  refine sw_topI (y := ((ii + 1 : Nat) : Int)) (by first | rfl | (congr 1)) ?_
  refine sw_sld (dL_law_19.at 25 rfl) hG hv.1 hv.2.1 ?_
  replace hv := hv.2.2
  refine sw_callV (B' := BL) (As := [vi ((G.2.2 (((ii + 1 : Nat) : Int).toNat)).toInt)]) (mc := 0) (ms := 0) (dL_law_19.at 26 rfl) lk_L_175 (S_lt 49 (by decide)) (S_49 nw nx g) rfl rfl (Nat.le_of_ble_eq_true rfl) rfl hB1 hB2 ?_
  refine c_X9_longest (s := ((G.2.2 (((ii + 1 : Nat) : Int).toNat)).toInt)) (P := P) (j := j + 36) hv.1 hv.2.1 hv.2.2.1 hv.2.2.2.1 (fun c_1 h_1 => ?_)
  replace hv := hv.2.2.2.2 c_1 h_1
  refine sw_icmp_same (tgt := 2308) (dL_law_19.at 27 rfl) (by decide) ?_
  exact hv

theorem cs_longest {G : GG} {j nw nx gn : Nat} {g : Nat → Sh} {c : Nat → Nat → Int} {post : Option AV → AM → Prop} {BL : BB} {P : GD} {T : PT} {ln : Nat} {bo : Nat → Nat} {n : Nat} {nb : Nat → Nat} {MT : Nat} {MA : Nat} {ii : Nat} (hG : G.2.1 < 2147483648) (hB1 : BL.1 ≤ BL.2.2.1) (hB2 : BL.2.1 ≤ BL.2.2.2) (hii : ii + 6 ≤ G.2.1) (hv : INV c nw nx P T ln bo n nb MT MA) (K : ∀ c2 : Nat → Nat → Int, INV c2 nw nx P T ln bo n nb MT MA → SW G (j + 40) mL_law 2308 [some (vf 0), some (vr (0)), some (vr (49)), some (vi (((ii : Nat) : Int)))] [] (S nw nx g, 78 + gn, c2) BL post) : SW G (j + 40) mL_law 1485 [some (vf 0), some (vr (0)), some (vr (49)), some (vi (((ii : Nat) : Int)))] [] (S nw nx g, 78 + gn, c) BL post := by
  have hv0 := hv
  obtain ⟨hIT, hIP, hIR, hIE, ⟨hwx, hSP, ⟨⟨hV, hC, hDn, hSi⟩, ⟨hOr, hMi, hSp, hBr, hBt⟩, ⟨hLa, hGP, hP0, hHT⟩, hMv⟩, hbo, hbl, hE, hM, hln⟩, ⟨hPR, hCR, hRR⟩, hIM⟩ := hv
  have hIM0 := hIM
  obtain ⟨⟨hMT60, hMA30, hMA0, hMf, hMs⟩, ⟨hM1, hM2, hM3, hM4⟩, hM5, hM6⟩ := hIM
  have hnw : nw = 21 ∨ nw = 35 := by omega
  have hRb := hC.1.1
  have hLn := hC.1.2
  have hLn2 : ∀ s, s < gR P → s + 1 < gN P := hC.1.2
  refine g_law_longest (P := P) hG hB1 hB2 ?_
  refine ⟨?_, ?_, ⟨?_, ?_, ?_, ?_, ?_, ⟨?_, ?_, ⟨?_, ?_, ?_, ?_, fun c_1 h_1 => ?_⟩⟩⟩⟩
  all_goals first | assumption | omega | exact i32rng _ | exact K _ (INV_SC hv0 h_1)

set_option maxHeartbeats 2000000 in
set_option maxRecDepth 20000 in
theorem g_law_inside {G : GG} {j nw nx gn : Nat} {g : Nat → Sh} {c : Nat → Nat → Int} {post : Option AV → AM → Prop} {BL : BB} {P : GD} {ii : Nat} (hG : G.2.1 < 2147483648) (hB1 : BL.1 ≤ BL.2.2.1) (hB2 : BL.2.1 ≤ BL.2.2.2)  (hv : (0 ≤ ((ii + 1 : Nat) : Int)) ∧ (((ii + 1 : Nat) : Int) < (G.2.1 : Int)) ∧ ((0 ≤ ((ii + 2 : Nat) : Int)) ∧ (((ii + 2 : Nat) : Int) < (G.2.1 : Int)) ∧ ((nw = 21 ∨ nw = 35) ∧ (EL c nw P) ∧ (GV P) ∧ (-2147483648 ≤ ((G.2.2 (((ii + 1 : Nat) : Int).toNat)).toInt) ∧ ((G.2.2 (((ii + 1 : Nat) : Int).toNat)).toInt) < 2147483648) ∧ (-2147483648 ≤ ((G.2.2 (((ii + 2 : Nat) : Int).toNat)).toInt) ∧ ((G.2.2 (((ii + 2 : Nat) : Int).toNat)).toInt) < 2147483648) ∧ (∀ c_1 : Nat → Nat → Int, (∀ a, a ≠ 20 → c_1 a = c a) → (0 ≤ ((ii + 1 : Nat) : Int)) ∧ (((ii + 1 : Nat) : Int) < (G.2.1 : Int)) ∧ ((0 ≤ ((ii + 2 : Nat) : Int)) ∧ (((ii + 2 : Nat) : Int) < (G.2.1 : Int)) ∧ ((ML c_1 P) ∧ (GV P) ∧ (GC P) ∧ (-2147483648 ≤ ((G.2.2 (((ii + 1 : Nat) : Int).toNat)).toInt) ∧ ((G.2.2 (((ii + 1 : Nat) : Int).toNat)).toInt) < 2147483648) ∧ (-2147483648 ≤ ((G.2.2 (((ii + 2 : Nat) : Int).toNat)).toInt) ∧ ((G.2.2 (((ii + 2 : Nat) : Int).toNat)).toInt) < 2147483648) ∧ (∀ c_2 : Nat → Nat → Int, SC c_1 c_2 → SW G (j + 40) mL_law 2308 [some (vf 0), some (vr (0)), some (vr (49)), some (vi (((ii : Nat) : Int)))] [] (S nw nx g, 78 + gn, c_2) BL post))))))) :
    SW G (j + 40) mL_law 1508 [some (vf 0), some (vr (0)), some (vr (49)), some (vi (((ii : Nat) : Int)))] [] (S nw nx g, 78 + gn, c) BL post := by
  refine sw_aload_n (dL_law_19.at 30 rfl) rfl rfl ?_
  refine sw_aload_nf (dL_law_19.at 31 rfl) rfl rfl ?_
  refine sw_iload_n (dL_law_19.at 32 rfl) rfl rfl ?_
  refine sw_iconst (dL_law_19.at 33 rfl) ?_
  refine sw_iadd (dL_law_19.at 34 rfl) ?_
  refine sw_topI (y := ((ii + 1 : Nat) : Int)) (by first | rfl | (congr 1)) ?_
  refine sw_sld (dL_law_19.at 35 rfl) hG hv.1 hv.2.1 ?_
  replace hv := hv.2.2
  refine sw_aload_nf (dL_law_19.at 36 rfl) rfl rfl ?_
  refine sw_iload_n (dL_law_19.at 37 rfl) rfl rfl ?_
  refine sw_iconst (dL_law_19.at 38 rfl) ?_
  refine sw_iadd (dL_law_19.at 39 rfl) ?_
  refine sw_topI (y := ((ii + 2 : Nat) : Int)) (by first | rfl | (congr 1)) ?_
  refine sw_sld (dL_law_19.at 40 rfl) hG hv.1 hv.2.1 ?_
  replace hv := hv.2.2
  refine sw_callV (B' := BL) (As := [vi ((G.2.2 (((ii + 1 : Nat) : Int).toNat)).toInt), vi ((G.2.2 (((ii + 2 : Nat) : Int).toNat)).toInt)]) (mc := 0) (ms := 0) (dL_law_19.at 41 rfl) lk_L_176 (S_lt 0 (by decide)) (S_0 nw nx g) rfl rfl (Nat.le_of_ble_eq_true rfl) rfl hB1 hB2 ?_
  refine c_X8_inside (x := ((G.2.2 (((ii + 1 : Nat) : Int).toNat)).toInt)) (y := ((G.2.2 (((ii + 2 : Nat) : Int).toNat)).toInt)) (P := P) (j := j + 36) hv.1 hv.2.1 hv.2.2.1 hv.2.2.2.1 hv.2.2.2.2.1 (fun c_1 h_1 => ?_)
  replace hv := hv.2.2.2.2.2 c_1 h_1
  refine sw_aload_n (dL_law_19.at 42 rfl) rfl rfl ?_
  refine sw_aload_nf (dL_law_19.at 43 rfl) rfl rfl ?_
  refine sw_iload_n (dL_law_19.at 44 rfl) rfl rfl ?_
  refine sw_iconst (dL_law_19.at 45 rfl) ?_
  refine sw_iadd (dL_law_19.at 46 rfl) ?_
  refine sw_topI (y := ((ii + 1 : Nat) : Int)) (by first | rfl | (congr 1)) ?_
  refine sw_sld (dL_law_19.at 47 rfl) hG hv.1 hv.2.1 ?_
  replace hv := hv.2.2
  refine sw_aload_nf (dL_law_19.at 48 rfl) rfl rfl ?_
  refine sw_iload_n (dL_law_19.at 49 rfl) rfl rfl ?_
  refine sw_iconst (dL_law_20.at 0 rfl) ?_
  refine sw_iadd (dL_law_20.at 1 rfl) ?_
  refine sw_topI (y := ((ii + 2 : Nat) : Int)) (by first | rfl | (congr 1)) ?_
  refine sw_sld (dL_law_20.at 2 rfl) hG hv.1 hv.2.1 ?_
  replace hv := hv.2.2
  refine sw_callV (B' := BL) (As := [vi ((G.2.2 (((ii + 1 : Nat) : Int).toNat)).toInt), vi ((G.2.2 (((ii + 2 : Nat) : Int).toNat)).toInt)]) (mc := 0) (ms := 0) (dL_law_20.at 3 rfl) lk_L_179 (S_lt 49 (by decide)) (S_49 nw nx g) rfl rfl (Nat.le_of_ble_eq_true rfl) rfl hB1 hB2 ?_
  refine c_X9_inside (x := ((G.2.2 (((ii + 1 : Nat) : Int).toNat)).toInt)) (y := ((G.2.2 (((ii + 2 : Nat) : Int).toNat)).toInt)) (P := P) (j := j + 36) hv.1 hv.2.1 hv.2.2.1 hv.2.2.2.1 hv.2.2.2.2.1 (fun c_2 h_2 => ?_)
  replace hv := hv.2.2.2.2.2 c_2 h_2
  refine sw_lcmp_same (tgt := 2308) (dL_law_20.at 4 rfl) (dL_law_20.at 5 rfl) (by decide) ?_
  exact hv

theorem cs_inside {G : GG} {j nw nx gn : Nat} {g : Nat → Sh} {c : Nat → Nat → Int} {post : Option AV → AM → Prop} {BL : BB} {P : GD} {T : PT} {ln : Nat} {bo : Nat → Nat} {n : Nat} {nb : Nat → Nat} {MT : Nat} {MA : Nat} {ii : Nat} (hG : G.2.1 < 2147483648) (hB1 : BL.1 ≤ BL.2.2.1) (hB2 : BL.2.1 ≤ BL.2.2.2) (hii : ii + 6 ≤ G.2.1) (hv : INV c nw nx P T ln bo n nb MT MA) (K : ∀ c2 : Nat → Nat → Int, INV c2 nw nx P T ln bo n nb MT MA → SW G (j + 40) mL_law 2308 [some (vf 0), some (vr (0)), some (vr (49)), some (vi (((ii : Nat) : Int)))] [] (S nw nx g, 78 + gn, c2) BL post) : SW G (j + 40) mL_law 1508 [some (vf 0), some (vr (0)), some (vr (49)), some (vi (((ii : Nat) : Int)))] [] (S nw nx g, 78 + gn, c) BL post := by
  have hv0 := hv
  obtain ⟨hIT, hIP, hIR, hIE, ⟨hwx, hSP, ⟨⟨hV, hC, hDn, hSi⟩, ⟨hOr, hMi, hSp, hBr, hBt⟩, ⟨hLa, hGP, hP0, hHT⟩, hMv⟩, hbo, hbl, hE, hM, hln⟩, ⟨hPR, hCR, hRR⟩, hIM⟩ := hv
  have hIM0 := hIM
  obtain ⟨⟨hMT60, hMA30, hMA0, hMf, hMs⟩, ⟨hM1, hM2, hM3, hM4⟩, hM5, hM6⟩ := hIM
  have hnw : nw = 21 ∨ nw = 35 := by omega
  have hRb := hC.1.1
  have hLn := hC.1.2
  have hLn2 : ∀ s, s < gR P → s + 1 < gN P := hC.1.2
  refine g_law_inside (P := P) hG hB1 hB2 ?_
  refine ⟨?_, ?_, ⟨?_, ?_, ⟨?_, ?_, ?_, ?_, ?_, fun c_1 h_1 => ⟨?_, ?_, ⟨?_, ?_, ⟨?_, ?_, ?_, ?_, ?_, fun c_2 h_2 => ?_⟩⟩⟩⟩⟩⟩
  all_goals first | assumption | omega | exact i32rng _ | exact ML_row hM (fun a ha hb => h_1 a (by omega)) | exact RR_row hRR (fun a ha hb => h_1 a (by omega)) | exact K _ (INV_SC (INV_C0 hv0 (fun a ha hb => h_1 a hb)) h_2)

set_option maxHeartbeats 2000000 in
set_option maxRecDepth 20000 in
theorem g_law_hecke {G : GG} {j nw nx gn : Nat} {g : Nat → Sh} {c : Nat → Nat → Int} {post : Option AV → AM → Prop} {BL : BB} {P : GD} {ii : Nat} (hG : G.2.1 < 2147483648) (hB1 : BL.1 ≤ BL.2.2.1) (hB2 : BL.2.1 ≤ BL.2.2.2)  (hv : (0 ≤ ((ii + 1 : Nat) : Int)) ∧ (((ii + 1 : Nat) : Int) < (G.2.1 : Int)) ∧ ((0 ≤ ((ii + 2 : Nat) : Int)) ∧ (((ii + 2 : Nat) : Int) < (G.2.1 : Int)) ∧ ((0 ≤ ((ii + 3 : Nat) : Int)) ∧ (((ii + 3 : Nat) : Int) < (G.2.1 : Int)) ∧ ((0 ≤ ((ii + 4 : Nat) : Int)) ∧ (((ii + 4 : Nat) : Int) < (G.2.1 : Int)) ∧ ((nw = 21 ∨ nw = 35) ∧ (EL c nw P) ∧ (GV P) ∧ (-2147483648 ≤ ((G.2.2 (((ii + 1 : Nat) : Int).toNat)).toInt) ∧ ((G.2.2 (((ii + 1 : Nat) : Int).toNat)).toInt) < 2147483648) ∧ (-2147483648 ≤ ((G.2.2 (((ii + 2 : Nat) : Int).toNat)).toInt) ∧ ((G.2.2 (((ii + 2 : Nat) : Int).toNat)).toInt) < 2147483648) ∧ (-2147483648 ≤ ((G.2.2 (((ii + 3 : Nat) : Int).toNat)).toInt) ∧ ((G.2.2 (((ii + 3 : Nat) : Int).toNat)).toInt) < 2147483648) ∧ (-2147483648 ≤ ((G.2.2 (((ii + 4 : Nat) : Int).toNat)).toInt) ∧ ((G.2.2 (((ii + 4 : Nat) : Int).toNat)).toInt) < 2147483648) ∧ (∀ c_1 : Nat → Nat → Int, (∀ a, a ≠ 10 → c_1 a = c a) → (0 ≤ ((ii + 1 : Nat) : Int)) ∧ (((ii + 1 : Nat) : Int) < (G.2.1 : Int)) ∧ ((0 ≤ ((ii + 2 : Nat) : Int)) ∧ (((ii + 2 : Nat) : Int) < (G.2.1 : Int)) ∧ ((0 ≤ ((ii + 3 : Nat) : Int)) ∧ (((ii + 3 : Nat) : Int) < (G.2.1 : Int)) ∧ ((0 ≤ ((ii + 4 : Nat) : Int)) ∧ (((ii + 4 : Nat) : Int) < (G.2.1 : Int)) ∧ ((ML c_1 P) ∧ (GV P) ∧ (GC P) ∧ (hSi P) ∧ (-2147483648 ≤ ((G.2.2 (((ii + 1 : Nat) : Int).toNat)).toInt) ∧ ((G.2.2 (((ii + 1 : Nat) : Int).toNat)).toInt) < 2147483648) ∧ (-2147483648 ≤ ((G.2.2 (((ii + 2 : Nat) : Int).toNat)).toInt) ∧ ((G.2.2 (((ii + 2 : Nat) : Int).toNat)).toInt) < 2147483648) ∧ (-2147483648 ≤ ((G.2.2 (((ii + 3 : Nat) : Int).toNat)).toInt) ∧ ((G.2.2 (((ii + 3 : Nat) : Int).toNat)).toInt) < 2147483648) ∧ (-2147483648 ≤ ((G.2.2 (((ii + 4 : Nat) : Int).toNat)).toInt) ∧ ((G.2.2 (((ii + 4 : Nat) : Int).toNat)).toInt) < 2147483648) ∧ (∀ c_2 : Nat → Nat → Int, SC c_1 c_2 → SW G (j + 40) mL_law 2308 [some (vf 0), some (vr (0)), some (vr (49)), some (vi (((ii : Nat) : Int)))] [] (S nw nx g, 78 + gn, c_2) BL post))))))))))) :
    SW G (j + 40) mL_law 1542 [some (vf 0), some (vr (0)), some (vr (49)), some (vi (((ii : Nat) : Int)))] [] (S nw nx g, 78 + gn, c) BL post := by
  refine sw_aload_n (dL_law_20.at 8 rfl) rfl rfl ?_
  refine sw_aload_nf (dL_law_20.at 9 rfl) rfl rfl ?_
  refine sw_iload_n (dL_law_20.at 10 rfl) rfl rfl ?_
  refine sw_iconst (dL_law_20.at 11 rfl) ?_
  refine sw_iadd (dL_law_20.at 12 rfl) ?_
  refine sw_topI (y := ((ii + 1 : Nat) : Int)) (by first | rfl | (congr 1)) ?_
  refine sw_sld (dL_law_20.at 13 rfl) hG hv.1 hv.2.1 ?_
  replace hv := hv.2.2
  refine sw_aload_nf (dL_law_20.at 14 rfl) rfl rfl ?_
  refine sw_iload_n (dL_law_20.at 15 rfl) rfl rfl ?_
  refine sw_iconst (dL_law_20.at 16 rfl) ?_
  refine sw_iadd (dL_law_20.at 17 rfl) ?_
  refine sw_topI (y := ((ii + 2 : Nat) : Int)) (by first | rfl | (congr 1)) ?_
  refine sw_sld (dL_law_20.at 18 rfl) hG hv.1 hv.2.1 ?_
  replace hv := hv.2.2
  refine sw_aload_nf (dL_law_20.at 19 rfl) rfl rfl ?_
  refine sw_iload_n (dL_law_20.at 20 rfl) rfl rfl ?_
  refine sw_iconst (dL_law_20.at 21 rfl) ?_
  refine sw_iadd (dL_law_20.at 22 rfl) ?_
  refine sw_topI (y := ((ii + 3 : Nat) : Int)) (by first | rfl | (congr 1)) ?_
  refine sw_sld (dL_law_20.at 23 rfl) hG hv.1 hv.2.1 ?_
  replace hv := hv.2.2
  refine sw_aload_nf (dL_law_20.at 24 rfl) rfl rfl ?_
  refine sw_iload_n (dL_law_20.at 25 rfl) rfl rfl ?_
  refine sw_iconst (dL_law_20.at 26 rfl) ?_
  refine sw_iadd (dL_law_20.at 27 rfl) ?_
  refine sw_topI (y := ((ii + 4 : Nat) : Int)) (by first | rfl | (congr 1)) ?_
  refine sw_sld (dL_law_20.at 28 rfl) hG hv.1 hv.2.1 ?_
  replace hv := hv.2.2
  refine sw_callV (B' := BL) (As := [vi ((G.2.2 (((ii + 1 : Nat) : Int).toNat)).toInt), vi ((G.2.2 (((ii + 2 : Nat) : Int).toNat)).toInt), vi ((G.2.2 (((ii + 3 : Nat) : Int).toNat)).toInt), vi ((G.2.2 (((ii + 4 : Nat) : Int).toNat)).toInt)]) (mc := 0) (ms := 0) (dL_law_20.at 29 rfl) lk_L_180 (S_lt 0 (by decide)) (S_0 nw nx g) rfl rfl (Nat.le_of_ble_eq_true rfl) rfl hB1 hB2 ?_
  refine c_X8_hecke (v := ((G.2.2 (((ii + 1 : Nat) : Int).toNat)).toInt)) (w := ((G.2.2 (((ii + 2 : Nat) : Int).toNat)).toInt)) (z := ((G.2.2 (((ii + 3 : Nat) : Int).toNat)).toInt)) (k := ((G.2.2 (((ii + 4 : Nat) : Int).toNat)).toInt)) (P := P) (j := j + 37) hv.1 hv.2.1 hv.2.2.1 hv.2.2.2.1 hv.2.2.2.2.1 hv.2.2.2.2.2.1 hv.2.2.2.2.2.2.1 (fun c_1 h_1 => ?_)
  replace hv := hv.2.2.2.2.2.2.2 c_1 h_1
  refine sw_aload_n (dL_law_20.at 30 rfl) rfl rfl ?_
  refine sw_aload_nf (dL_law_20.at 31 rfl) rfl rfl ?_
  refine sw_iload_n (dL_law_20.at 32 rfl) rfl rfl ?_
  refine sw_iconst (dL_law_20.at 33 rfl) ?_
  refine sw_iadd (dL_law_20.at 34 rfl) ?_
  refine sw_topI (y := ((ii + 1 : Nat) : Int)) (by first | rfl | (congr 1)) ?_
  refine sw_sld (dL_law_20.at 35 rfl) hG hv.1 hv.2.1 ?_
  replace hv := hv.2.2
  refine sw_aload_nf (dL_law_20.at 36 rfl) rfl rfl ?_
  refine sw_iload_n (dL_law_20.at 37 rfl) rfl rfl ?_
  refine sw_iconst (dL_law_20.at 38 rfl) ?_
  refine sw_iadd (dL_law_20.at 39 rfl) ?_
  refine sw_topI (y := ((ii + 2 : Nat) : Int)) (by first | rfl | (congr 1)) ?_
  refine sw_sld (dL_law_20.at 40 rfl) hG hv.1 hv.2.1 ?_
  replace hv := hv.2.2
  refine sw_aload_nf (dL_law_20.at 41 rfl) rfl rfl ?_
  refine sw_iload_n (dL_law_20.at 42 rfl) rfl rfl ?_
  refine sw_iconst (dL_law_20.at 43 rfl) ?_
  refine sw_iadd (dL_law_20.at 44 rfl) ?_
  refine sw_topI (y := ((ii + 3 : Nat) : Int)) (by first | rfl | (congr 1)) ?_
  refine sw_sld (dL_law_20.at 45 rfl) hG hv.1 hv.2.1 ?_
  replace hv := hv.2.2
  refine sw_aload_nf (dL_law_20.at 46 rfl) rfl rfl ?_
  refine sw_iload_n (dL_law_20.at 47 rfl) rfl rfl ?_
  refine sw_iconst (dL_law_20.at 48 rfl) ?_
  refine sw_iadd (dL_law_20.at 49 rfl) ?_
  refine sw_topI (y := ((ii + 4 : Nat) : Int)) (by first | rfl | (congr 1)) ?_
  refine sw_sld (dL_law_21.at 0 rfl) hG hv.1 hv.2.1 ?_
  replace hv := hv.2.2
  refine sw_callV (B' := BL) (As := [vi ((G.2.2 (((ii + 1 : Nat) : Int).toNat)).toInt), vi ((G.2.2 (((ii + 2 : Nat) : Int).toNat)).toInt), vi ((G.2.2 (((ii + 3 : Nat) : Int).toNat)).toInt), vi ((G.2.2 (((ii + 4 : Nat) : Int).toNat)).toInt)]) (mc := 0) (ms := 0) (dL_law_21.at 1 rfl) lk_L_184 (S_lt 49 (by decide)) (S_49 nw nx g) rfl rfl (Nat.le_of_ble_eq_true rfl) rfl hB1 hB2 ?_
  refine c_X9_hecke (v := ((G.2.2 (((ii + 1 : Nat) : Int).toNat)).toInt)) (w := ((G.2.2 (((ii + 2 : Nat) : Int).toNat)).toInt)) (o := ((G.2.2 (((ii + 3 : Nat) : Int).toNat)).toInt)) (k := ((G.2.2 (((ii + 4 : Nat) : Int).toNat)).toInt)) (P := P) (j := j + 37) hv.1 hv.2.1 hv.2.2.1 hv.2.2.2.1 hv.2.2.2.2.1 hv.2.2.2.2.2.1 hv.2.2.2.2.2.2.1 hv.2.2.2.2.2.2.2.1 (fun c_2 h_2 => ?_)
  replace hv := hv.2.2.2.2.2.2.2.2 c_2 h_2
  refine sw_icmp_same (tgt := 2308) (dL_law_21.at 2 rfl) (by decide) ?_
  exact hv

theorem cs_hecke {G : GG} {j nw nx gn : Nat} {g : Nat → Sh} {c : Nat → Nat → Int} {post : Option AV → AM → Prop} {BL : BB} {P : GD} {T : PT} {ln : Nat} {bo : Nat → Nat} {n : Nat} {nb : Nat → Nat} {MT : Nat} {MA : Nat} {ii : Nat} (hG : G.2.1 < 2147483648) (hB1 : BL.1 ≤ BL.2.2.1) (hB2 : BL.2.1 ≤ BL.2.2.2) (hii : ii + 6 ≤ G.2.1) (hv : INV c nw nx P T ln bo n nb MT MA) (K : ∀ c2 : Nat → Nat → Int, INV c2 nw nx P T ln bo n nb MT MA → SW G (j + 40) mL_law 2308 [some (vf 0), some (vr (0)), some (vr (49)), some (vi (((ii : Nat) : Int)))] [] (S nw nx g, 78 + gn, c2) BL post) : SW G (j + 40) mL_law 1542 [some (vf 0), some (vr (0)), some (vr (49)), some (vi (((ii : Nat) : Int)))] [] (S nw nx g, 78 + gn, c) BL post := by
  have hv0 := hv
  obtain ⟨hIT, hIP, hIR, hIE, ⟨hwx, hSP, ⟨⟨hV, hC, hDn, hSi⟩, ⟨hOr, hMi, hSp, hBr, hBt⟩, ⟨hLa, hGP, hP0, hHT⟩, hMv⟩, hbo, hbl, hE, hM, hln⟩, ⟨hPR, hCR, hRR⟩, hIM⟩ := hv
  have hIM0 := hIM
  obtain ⟨⟨hMT60, hMA30, hMA0, hMf, hMs⟩, ⟨hM1, hM2, hM3, hM4⟩, hM5, hM6⟩ := hIM
  have hnw : nw = 21 ∨ nw = 35 := by omega
  have hRb := hC.1.1
  have hLn := hC.1.2
  have hLn2 : ∀ s, s < gR P → s + 1 < gN P := hC.1.2
  refine g_law_hecke (P := P) hG hB1 hB2 ?_
  refine ⟨?_, ?_, ⟨?_, ?_, ⟨?_, ?_, ⟨?_, ?_, ⟨?_, ?_, ?_, ?_, ?_, ?_, ?_, fun c_1 h_1 => ⟨?_, ?_, ⟨?_, ?_, ⟨?_, ?_, ⟨?_, ?_, ⟨?_, ?_, ?_, ?_, ?_, ?_, ?_, ?_, fun c_2 h_2 => ?_⟩⟩⟩⟩⟩⟩⟩⟩⟩⟩
  all_goals first | assumption | omega | exact i32rng _ | exact ML_row hM (fun a ha hb => h_1 a (by omega)) | exact RR_row hRR (fun a ha hb => h_1 a (by omega)) | exact K _ (INV_SC (INV_C0 hv0 (fun a ha hb => h_1 a (by omega))) h_2)

set_option maxHeartbeats 2000000 in
set_option maxRecDepth 20000 in
theorem g_law_weakly {G : GG} {j nw nx gn : Nat} {g : Nat → Sh} {c : Nat → Nat → Int} {post : Option AV → AM → Prop} {BL : BB} {P : GD} {ii : Nat} (hG : G.2.1 < 2147483648) (hB1 : BL.1 ≤ BL.2.2.1) (hB2 : BL.2.1 ≤ BL.2.2.2)  (hv : (0 ≤ ((ii + 1 : Nat) : Int)) ∧ (((ii + 1 : Nat) : Int) < (G.2.1 : Int)) ∧ ((0 ≤ ((ii + 2 : Nat) : Int)) ∧ (((ii + 2 : Nat) : Int) < (G.2.1 : Int)) ∧ ((0 ≤ ((ii + 3 : Nat) : Int)) ∧ (((ii + 3 : Nat) : Int) < (G.2.1 : Int)) ∧ ((nw = 21 ∨ nw = 35) ∧ (EL c nw P) ∧ (GV P) ∧ (-2147483648 ≤ ((G.2.2 (((ii + 1 : Nat) : Int).toNat)).toInt) ∧ ((G.2.2 (((ii + 1 : Nat) : Int).toNat)).toInt) < 2147483648) ∧ (-2147483648 ≤ ((G.2.2 (((ii + 2 : Nat) : Int).toNat)).toInt) ∧ ((G.2.2 (((ii + 2 : Nat) : Int).toNat)).toInt) < 2147483648) ∧ (-2147483648 ≤ ((G.2.2 (((ii + 3 : Nat) : Int).toNat)).toInt) ∧ ((G.2.2 (((ii + 3 : Nat) : Int).toNat)).toInt) < 2147483648) ∧ ((0 ≤ ((ii + 1 : Nat) : Int)) ∧ (((ii + 1 : Nat) : Int) < (G.2.1 : Int)) ∧ ((0 ≤ ((ii + 2 : Nat) : Int)) ∧ (((ii + 2 : Nat) : Int) < (G.2.1 : Int)) ∧ ((0 ≤ ((ii + 3 : Nat) : Int)) ∧ (((ii + 3 : Nat) : Int) < (G.2.1 : Int)) ∧ ((ML c P) ∧ (GV P) ∧ (GC P) ∧ (-2147483648 ≤ ((G.2.2 (((ii + 1 : Nat) : Int).toNat)).toInt) ∧ ((G.2.2 (((ii + 1 : Nat) : Int).toNat)).toInt) < 2147483648) ∧ (-2147483648 ≤ ((G.2.2 (((ii + 2 : Nat) : Int).toNat)).toInt) ∧ ((G.2.2 (((ii + 2 : Nat) : Int).toNat)).toInt) < 2147483648) ∧ (-2147483648 ≤ ((G.2.2 (((ii + 3 : Nat) : Int).toNat)).toInt) ∧ ((G.2.2 (((ii + 3 : Nat) : Int).toNat)).toInt) < 2147483648) ∧ (∀ c_1 : Nat → Nat → Int, SC c c_1 → SW G (j + 40) mL_law 2308 [some (vf 0), some (vr (0)), some (vr (49)), some (vi (((ii : Nat) : Int)))] [] (S nw nx g, 78 + gn, c_1) BL post))))))))) :
    SW G (j + 40) mL_law 1595 [some (vf 0), some (vr (0)), some (vr (49)), some (vi (((ii : Nat) : Int)))] [] (S nw nx g, 78 + gn, c) BL post := by
  refine sw_aload_n (dL_law_21.at 5 rfl) rfl rfl ?_
  refine sw_aload_nf (dL_law_21.at 6 rfl) rfl rfl ?_
  refine sw_iload_n (dL_law_21.at 7 rfl) rfl rfl ?_
  refine sw_iconst (dL_law_21.at 8 rfl) ?_
  refine sw_iadd (dL_law_21.at 9 rfl) ?_
  refine sw_topI (y := ((ii + 1 : Nat) : Int)) (by first | rfl | (congr 1)) ?_
  refine sw_sld (dL_law_21.at 10 rfl) hG hv.1 hv.2.1 ?_
  replace hv := hv.2.2
  refine sw_aload_nf (dL_law_21.at 11 rfl) rfl rfl ?_
  refine sw_iload_n (dL_law_21.at 12 rfl) rfl rfl ?_
  refine sw_iconst (dL_law_21.at 13 rfl) ?_
  refine sw_iadd (dL_law_21.at 14 rfl) ?_
  refine sw_topI (y := ((ii + 2 : Nat) : Int)) (by first | rfl | (congr 1)) ?_
  refine sw_sld (dL_law_21.at 15 rfl) hG hv.1 hv.2.1 ?_
  replace hv := hv.2.2
  refine sw_aload_nf (dL_law_21.at 16 rfl) rfl rfl ?_
  refine sw_iload_n (dL_law_21.at 17 rfl) rfl rfl ?_
  refine sw_iconst (dL_law_21.at 18 rfl) ?_
  refine sw_iadd (dL_law_21.at 19 rfl) ?_
  refine sw_topI (y := ((ii + 3 : Nat) : Int)) (by first | rfl | (congr 1)) ?_
  refine sw_sld (dL_law_21.at 20 rfl) hG hv.1 hv.2.1 ?_
  replace hv := hv.2.2
  refine sw_callV (B' := BL) (As := [vi ((G.2.2 (((ii + 1 : Nat) : Int).toNat)).toInt), vi ((G.2.2 (((ii + 2 : Nat) : Int).toNat)).toInt), vi ((G.2.2 (((ii + 3 : Nat) : Int).toNat)).toInt)]) (mc := 0) (ms := 0) (dL_law_21.at 21 rfl) lk_L_185 (S_lt 0 (by decide)) (S_0 nw nx g) rfl rfl (Nat.le_of_ble_eq_true rfl) rfl hB1 hB2 ?_
  refine c_X8_weakly (x := ((G.2.2 (((ii + 1 : Nat) : Int).toNat)).toInt)) (y := ((G.2.2 (((ii + 2 : Nat) : Int).toNat)).toInt)) (sd := ((G.2.2 (((ii + 3 : Nat) : Int).toNat)).toInt)) (P := P) (j := j + 37) hv.1 hv.2.1 hv.2.2.1 hv.2.2.2.1 hv.2.2.2.2.1 hv.2.2.2.2.2.1 ?_
  replace hv := hv.2.2.2.2.2.2
  refine sw_aload_n (dL_law_21.at 22 rfl) rfl rfl ?_
  refine sw_aload_nf (dL_law_21.at 23 rfl) rfl rfl ?_
  refine sw_iload_n (dL_law_21.at 24 rfl) rfl rfl ?_
  refine sw_iconst (dL_law_21.at 25 rfl) ?_
  refine sw_iadd (dL_law_21.at 26 rfl) ?_
  refine sw_topI (y := ((ii + 1 : Nat) : Int)) (by first | rfl | (congr 1)) ?_
  refine sw_sld (dL_law_21.at 27 rfl) hG hv.1 hv.2.1 ?_
  replace hv := hv.2.2
  refine sw_aload_nf (dL_law_21.at 28 rfl) rfl rfl ?_
  refine sw_iload_n (dL_law_21.at 29 rfl) rfl rfl ?_
  refine sw_iconst (dL_law_21.at 30 rfl) ?_
  refine sw_iadd (dL_law_21.at 31 rfl) ?_
  refine sw_topI (y := ((ii + 2 : Nat) : Int)) (by first | rfl | (congr 1)) ?_
  refine sw_sld (dL_law_21.at 32 rfl) hG hv.1 hv.2.1 ?_
  replace hv := hv.2.2
  refine sw_aload_nf (dL_law_21.at 33 rfl) rfl rfl ?_
  refine sw_iload_n (dL_law_21.at 34 rfl) rfl rfl ?_
  refine sw_iconst (dL_law_21.at 35 rfl) ?_
  refine sw_iadd (dL_law_21.at 36 rfl) ?_
  refine sw_topI (y := ((ii + 3 : Nat) : Int)) (by first | rfl | (congr 1)) ?_
  refine sw_sld (dL_law_21.at 37 rfl) hG hv.1 hv.2.1 ?_
  replace hv := hv.2.2
  refine sw_callV (B' := BL) (As := [vi ((G.2.2 (((ii + 1 : Nat) : Int).toNat)).toInt), vi ((G.2.2 (((ii + 2 : Nat) : Int).toNat)).toInt), vi ((G.2.2 (((ii + 3 : Nat) : Int).toNat)).toInt)]) (mc := 0) (ms := 0) (dL_law_21.at 38 rfl) lk_L_188 (S_lt 49 (by decide)) (S_49 nw nx g) rfl rfl (Nat.le_of_ble_eq_true rfl) rfl hB1 hB2 ?_
  refine c_X9_weakly (x := ((G.2.2 (((ii + 1 : Nat) : Int).toNat)).toInt)) (y := ((G.2.2 (((ii + 2 : Nat) : Int).toNat)).toInt)) (sd := ((G.2.2 (((ii + 3 : Nat) : Int).toNat)).toInt)) (P := P) (j := j + 36) hv.1 hv.2.1 hv.2.2.1 hv.2.2.2.1 hv.2.2.2.2.1 hv.2.2.2.2.2.1 (fun c_1 h_1 => ?_)
  replace hv := hv.2.2.2.2.2.2 c_1 h_1
  refine sw_icmp_same (tgt := 2308) (dL_law_21.at 39 rfl) (by decide) ?_
  exact hv

theorem cs_weakly {G : GG} {j nw nx gn : Nat} {g : Nat → Sh} {c : Nat → Nat → Int} {post : Option AV → AM → Prop} {BL : BB} {P : GD} {T : PT} {ln : Nat} {bo : Nat → Nat} {n : Nat} {nb : Nat → Nat} {MT : Nat} {MA : Nat} {ii : Nat} (hG : G.2.1 < 2147483648) (hB1 : BL.1 ≤ BL.2.2.1) (hB2 : BL.2.1 ≤ BL.2.2.2) (hii : ii + 6 ≤ G.2.1) (hv : INV c nw nx P T ln bo n nb MT MA) (K : ∀ c2 : Nat → Nat → Int, INV c2 nw nx P T ln bo n nb MT MA → SW G (j + 40) mL_law 2308 [some (vf 0), some (vr (0)), some (vr (49)), some (vi (((ii : Nat) : Int)))] [] (S nw nx g, 78 + gn, c2) BL post) : SW G (j + 40) mL_law 1595 [some (vf 0), some (vr (0)), some (vr (49)), some (vi (((ii : Nat) : Int)))] [] (S nw nx g, 78 + gn, c) BL post := by
  have hv0 := hv
  obtain ⟨hIT, hIP, hIR, hIE, ⟨hwx, hSP, ⟨⟨hV, hC, hDn, hSi⟩, ⟨hOr, hMi, hSp, hBr, hBt⟩, ⟨hLa, hGP, hP0, hHT⟩, hMv⟩, hbo, hbl, hE, hM, hln⟩, ⟨hPR, hCR, hRR⟩, hIM⟩ := hv
  have hIM0 := hIM
  obtain ⟨⟨hMT60, hMA30, hMA0, hMf, hMs⟩, ⟨hM1, hM2, hM3, hM4⟩, hM5, hM6⟩ := hIM
  have hnw : nw = 21 ∨ nw = 35 := by omega
  have hRb := hC.1.1
  have hLn := hC.1.2
  have hLn2 : ∀ s, s < gR P → s + 1 < gN P := hC.1.2
  refine g_law_weakly (P := P) hG hB1 hB2 ?_
  refine ⟨?_, ?_, ⟨?_, ?_, ⟨?_, ?_, ⟨?_, ?_, ?_, ?_, ?_, ?_, ⟨?_, ?_, ⟨?_, ?_, ⟨?_, ?_, ⟨?_, ?_, ?_, ?_, ?_, ?_, fun c_1 h_1 => ?_⟩⟩⟩⟩⟩⟩⟩⟩
  all_goals first | assumption | omega | exact i32rng _ | exact K _ (INV_SC hv0 h_1)

set_option maxHeartbeats 2000000 in
set_option maxRecDepth 20000 in
theorem g_law_meet {G : GG} {j nw nx gn : Nat} {g : Nat → Sh} {c : Nat → Nat → Int} {post : Option AV → AM → Prop} {BL : BB} {P : GD} {ii : Nat} (hG : G.2.1 < 2147483648) (hB1 : BL.1 ≤ BL.2.2.1) (hB2 : BL.2.1 ≤ BL.2.2.2)  (hv : (0 ≤ ((ii + 1 : Nat) : Int)) ∧ (((ii + 1 : Nat) : Int) < (G.2.1 : Int)) ∧ ((0 ≤ ((ii + 2 : Nat) : Int)) ∧ (((ii + 2 : Nat) : Int) < (G.2.1 : Int)) ∧ ((0 ≤ ((ii + 3 : Nat) : Int)) ∧ (((ii + 3 : Nat) : Int) < (G.2.1 : Int)) ∧ ((nw = 21 ∨ nw = 35) ∧ (EL c nw P) ∧ (GV P) ∧ (-2147483648 ≤ ((G.2.2 (((ii + 1 : Nat) : Int).toNat)).toInt) ∧ ((G.2.2 (((ii + 1 : Nat) : Int).toNat)).toInt) < 2147483648) ∧ (-2147483648 ≤ ((G.2.2 (((ii + 2 : Nat) : Int).toNat)).toInt) ∧ ((G.2.2 (((ii + 2 : Nat) : Int).toNat)).toInt) < 2147483648) ∧ (-2147483648 ≤ ((G.2.2 (((ii + 3 : Nat) : Int).toNat)).toInt) ∧ ((G.2.2 (((ii + 3 : Nat) : Int).toNat)).toInt) < 2147483648) ∧ ((0 ≤ ((ii + 1 : Nat) : Int)) ∧ (((ii + 1 : Nat) : Int) < (G.2.1 : Int)) ∧ ((0 ≤ ((ii + 2 : Nat) : Int)) ∧ (((ii + 2 : Nat) : Int) < (G.2.1 : Int)) ∧ ((0 ≤ ((ii + 3 : Nat) : Int)) ∧ (((ii + 3 : Nat) : Int) < (G.2.1 : Int)) ∧ ((ML c P) ∧ (GV P) ∧ (GC P) ∧ (hLa P) ∧ (-2147483648 ≤ ((G.2.2 (((ii + 1 : Nat) : Int).toNat)).toInt) ∧ ((G.2.2 (((ii + 1 : Nat) : Int).toNat)).toInt) < 2147483648) ∧ (-2147483648 ≤ ((G.2.2 (((ii + 2 : Nat) : Int).toNat)).toInt) ∧ ((G.2.2 (((ii + 2 : Nat) : Int).toNat)).toInt) < 2147483648) ∧ (-2147483648 ≤ ((G.2.2 (((ii + 3 : Nat) : Int).toNat)).toInt) ∧ ((G.2.2 (((ii + 3 : Nat) : Int).toNat)).toInt) < 2147483648) ∧ (∀ c_1 : Nat → Nat → Int, SC c c_1 → SW G (j + 40) mL_law 2308 [some (vf 0), some (vr (0)), some (vr (49)), some (vi (((ii : Nat) : Int)))] [] (S nw nx g, 78 + gn, c_1) BL post))))))))) :
    SW G (j + 40) mL_law 1638 [some (vf 0), some (vr (0)), some (vr (49)), some (vi (((ii : Nat) : Int)))] [] (S nw nx g, 78 + gn, c) BL post := by
  refine sw_aload_n (dL_law_21.at 42 rfl) rfl rfl ?_
  refine sw_aload_nf (dL_law_21.at 43 rfl) rfl rfl ?_
  refine sw_iload_n (dL_law_21.at 44 rfl) rfl rfl ?_
  refine sw_iconst (dL_law_21.at 45 rfl) ?_
  refine sw_iadd (dL_law_21.at 46 rfl) ?_
  refine sw_topI (y := ((ii + 1 : Nat) : Int)) (by first | rfl | (congr 1)) ?_
  refine sw_sld (dL_law_21.at 47 rfl) hG hv.1 hv.2.1 ?_
  replace hv := hv.2.2
  refine sw_aload_nf (dL_law_21.at 48 rfl) rfl rfl ?_
  refine sw_iload_n (dL_law_21.at 49 rfl) rfl rfl ?_
  refine sw_iconst (dL_law_22.at 0 rfl) ?_
  refine sw_iadd (dL_law_22.at 1 rfl) ?_
  refine sw_topI (y := ((ii + 2 : Nat) : Int)) (by first | rfl | (congr 1)) ?_
  refine sw_sld (dL_law_22.at 2 rfl) hG hv.1 hv.2.1 ?_
  replace hv := hv.2.2
  refine sw_aload_nf (dL_law_22.at 3 rfl) rfl rfl ?_
  refine sw_iload_n (dL_law_22.at 4 rfl) rfl rfl ?_
  refine sw_iconst (dL_law_22.at 5 rfl) ?_
  refine sw_iadd (dL_law_22.at 6 rfl) ?_
  refine sw_topI (y := ((ii + 3 : Nat) : Int)) (by first | rfl | (congr 1)) ?_
  refine sw_sld (dL_law_22.at 7 rfl) hG hv.1 hv.2.1 ?_
  replace hv := hv.2.2
  refine sw_callV (B' := BL) (As := [vi ((G.2.2 (((ii + 1 : Nat) : Int).toNat)).toInt), vi ((G.2.2 (((ii + 2 : Nat) : Int).toNat)).toInt), vi ((G.2.2 (((ii + 3 : Nat) : Int).toNat)).toInt)]) (mc := 0) (ms := 0) (dL_law_22.at 8 rfl) lk_L_189 (S_lt 0 (by decide)) (S_0 nw nx g) rfl rfl (Nat.le_of_ble_eq_true rfl) rfl hB1 hB2 ?_
  refine c_X8_meet (x := ((G.2.2 (((ii + 1 : Nat) : Int).toNat)).toInt)) (y := ((G.2.2 (((ii + 2 : Nat) : Int).toNat)).toInt)) (sd := ((G.2.2 (((ii + 3 : Nat) : Int).toNat)).toInt)) (P := P) (j := j + 37) hv.1 hv.2.1 hv.2.2.1 hv.2.2.2.1 hv.2.2.2.2.1 hv.2.2.2.2.2.1 ?_
  replace hv := hv.2.2.2.2.2.2
  refine sw_aload_n (dL_law_22.at 9 rfl) rfl rfl ?_
  refine sw_aload_nf (dL_law_22.at 10 rfl) rfl rfl ?_
  refine sw_iload_n (dL_law_22.at 11 rfl) rfl rfl ?_
  refine sw_iconst (dL_law_22.at 12 rfl) ?_
  refine sw_iadd (dL_law_22.at 13 rfl) ?_
  refine sw_topI (y := ((ii + 1 : Nat) : Int)) (by first | rfl | (congr 1)) ?_
  refine sw_sld (dL_law_22.at 14 rfl) hG hv.1 hv.2.1 ?_
  replace hv := hv.2.2
  refine sw_aload_nf (dL_law_22.at 15 rfl) rfl rfl ?_
  refine sw_iload_n (dL_law_22.at 16 rfl) rfl rfl ?_
  refine sw_iconst (dL_law_22.at 17 rfl) ?_
  refine sw_iadd (dL_law_22.at 18 rfl) ?_
  refine sw_topI (y := ((ii + 2 : Nat) : Int)) (by first | rfl | (congr 1)) ?_
  refine sw_sld (dL_law_22.at 19 rfl) hG hv.1 hv.2.1 ?_
  replace hv := hv.2.2
  refine sw_aload_nf (dL_law_22.at 20 rfl) rfl rfl ?_
  refine sw_iload_n (dL_law_22.at 21 rfl) rfl rfl ?_
  refine sw_iconst (dL_law_22.at 22 rfl) ?_
  refine sw_iadd (dL_law_22.at 23 rfl) ?_
  refine sw_topI (y := ((ii + 3 : Nat) : Int)) (by first | rfl | (congr 1)) ?_
  refine sw_sld (dL_law_22.at 24 rfl) hG hv.1 hv.2.1 ?_
  replace hv := hv.2.2
  refine sw_callV (B' := BL) (As := [vi ((G.2.2 (((ii + 1 : Nat) : Int).toNat)).toInt), vi ((G.2.2 (((ii + 2 : Nat) : Int).toNat)).toInt), vi ((G.2.2 (((ii + 3 : Nat) : Int).toNat)).toInt)]) (mc := 0) (ms := 0) (dL_law_22.at 25 rfl) lk_L_192 (S_lt 49 (by decide)) (S_49 nw nx g) rfl rfl (Nat.le_of_ble_eq_true rfl) rfl hB1 hB2 ?_
  refine c_X9_meet (x := ((G.2.2 (((ii + 1 : Nat) : Int).toNat)).toInt)) (y := ((G.2.2 (((ii + 2 : Nat) : Int).toNat)).toInt)) (sd := ((G.2.2 (((ii + 3 : Nat) : Int).toNat)).toInt)) (P := P) (j := j + 36) hv.1 hv.2.1 hv.2.2.1 hv.2.2.2.1 hv.2.2.2.2.1 hv.2.2.2.2.2.1 hv.2.2.2.2.2.2.1 (fun c_1 h_1 => ?_)
  replace hv := hv.2.2.2.2.2.2.2 c_1 h_1
  refine sw_icmp_same (tgt := 2308) (dL_law_22.at 26 rfl) (by decide) ?_
  exact hv

theorem cs_meet {G : GG} {j nw nx gn : Nat} {g : Nat → Sh} {c : Nat → Nat → Int} {post : Option AV → AM → Prop} {BL : BB} {P : GD} {T : PT} {ln : Nat} {bo : Nat → Nat} {n : Nat} {nb : Nat → Nat} {MT : Nat} {MA : Nat} {ii : Nat} (hG : G.2.1 < 2147483648) (hB1 : BL.1 ≤ BL.2.2.1) (hB2 : BL.2.1 ≤ BL.2.2.2) (hii : ii + 6 ≤ G.2.1) (hv : INV c nw nx P T ln bo n nb MT MA) (K : ∀ c2 : Nat → Nat → Int, INV c2 nw nx P T ln bo n nb MT MA → SW G (j + 40) mL_law 2308 [some (vf 0), some (vr (0)), some (vr (49)), some (vi (((ii : Nat) : Int)))] [] (S nw nx g, 78 + gn, c2) BL post) : SW G (j + 40) mL_law 1638 [some (vf 0), some (vr (0)), some (vr (49)), some (vi (((ii : Nat) : Int)))] [] (S nw nx g, 78 + gn, c) BL post := by
  have hv0 := hv
  obtain ⟨hIT, hIP, hIR, hIE, ⟨hwx, hSP, ⟨⟨hV, hC, hDn, hSi⟩, ⟨hOr, hMi, hSp, hBr, hBt⟩, ⟨hLa, hGP, hP0, hHT⟩, hMv⟩, hbo, hbl, hE, hM, hln⟩, ⟨hPR, hCR, hRR⟩, hIM⟩ := hv
  have hIM0 := hIM
  obtain ⟨⟨hMT60, hMA30, hMA0, hMf, hMs⟩, ⟨hM1, hM2, hM3, hM4⟩, hM5, hM6⟩ := hIM
  have hnw : nw = 21 ∨ nw = 35 := by omega
  have hRb := hC.1.1
  have hLn := hC.1.2
  have hLn2 : ∀ s, s < gR P → s + 1 < gN P := hC.1.2
  refine g_law_meet (P := P) hG hB1 hB2 ?_
  refine ⟨?_, ?_, ⟨?_, ?_, ⟨?_, ?_, ⟨?_, ?_, ?_, ?_, ?_, ?_, ⟨?_, ?_, ⟨?_, ?_, ⟨?_, ?_, ⟨?_, ?_, ?_, ?_, ?_, ?_, ?_, fun c_1 h_1 => ?_⟩⟩⟩⟩⟩⟩⟩⟩
  all_goals first | assumption | omega | exact i32rng _ | exact K _ (INV_SC hv0 h_1)

set_option maxHeartbeats 2000000 in
set_option maxRecDepth 20000 in
theorem g_law_join {G : GG} {j nw nx gn : Nat} {g : Nat → Sh} {c : Nat → Nat → Int} {post : Option AV → AM → Prop} {BL : BB} {P : GD} {ii : Nat} (hG : G.2.1 < 2147483648) (hB1 : BL.1 ≤ BL.2.2.1) (hB2 : BL.2.1 ≤ BL.2.2.2)  (hv : (0 ≤ ((ii + 1 : Nat) : Int)) ∧ (((ii + 1 : Nat) : Int) < (G.2.1 : Int)) ∧ ((0 ≤ ((ii + 2 : Nat) : Int)) ∧ (((ii + 2 : Nat) : Int) < (G.2.1 : Int)) ∧ ((0 ≤ ((ii + 3 : Nat) : Int)) ∧ (((ii + 3 : Nat) : Int) < (G.2.1 : Int)) ∧ ((nw = 21 ∨ nw = 35) ∧ (EL c nw P) ∧ (GV P) ∧ (-2147483648 ≤ ((G.2.2 (((ii + 1 : Nat) : Int).toNat)).toInt) ∧ ((G.2.2 (((ii + 1 : Nat) : Int).toNat)).toInt) < 2147483648) ∧ (-2147483648 ≤ ((G.2.2 (((ii + 2 : Nat) : Int).toNat)).toInt) ∧ ((G.2.2 (((ii + 2 : Nat) : Int).toNat)).toInt) < 2147483648) ∧ (-2147483648 ≤ ((G.2.2 (((ii + 3 : Nat) : Int).toNat)).toInt) ∧ ((G.2.2 (((ii + 3 : Nat) : Int).toNat)).toInt) < 2147483648) ∧ ((0 ≤ ((ii + 1 : Nat) : Int)) ∧ (((ii + 1 : Nat) : Int) < (G.2.1 : Int)) ∧ ((0 ≤ ((ii + 2 : Nat) : Int)) ∧ (((ii + 2 : Nat) : Int) < (G.2.1 : Int)) ∧ ((0 ≤ ((ii + 3 : Nat) : Int)) ∧ (((ii + 3 : Nat) : Int) < (G.2.1 : Int)) ∧ ((ML c P) ∧ (GV P) ∧ (GC P) ∧ (hLa P) ∧ (-2147483648 ≤ ((G.2.2 (((ii + 1 : Nat) : Int).toNat)).toInt) ∧ ((G.2.2 (((ii + 1 : Nat) : Int).toNat)).toInt) < 2147483648) ∧ (-2147483648 ≤ ((G.2.2 (((ii + 2 : Nat) : Int).toNat)).toInt) ∧ ((G.2.2 (((ii + 2 : Nat) : Int).toNat)).toInt) < 2147483648) ∧ (-2147483648 ≤ ((G.2.2 (((ii + 3 : Nat) : Int).toNat)).toInt) ∧ ((G.2.2 (((ii + 3 : Nat) : Int).toNat)).toInt) < 2147483648) ∧ (∀ c_1 : Nat → Nat → Int, SC c c_1 → SW G (j + 40) mL_law 2308 [some (vf 0), some (vr (0)), some (vr (49)), some (vi (((ii : Nat) : Int)))] [] (S nw nx g, 78 + gn, c_1) BL post))))))))) :
    SW G (j + 40) mL_law 1681 [some (vf 0), some (vr (0)), some (vr (49)), some (vi (((ii : Nat) : Int)))] [] (S nw nx g, 78 + gn, c) BL post := by
  refine sw_aload_n (dL_law_22.at 29 rfl) rfl rfl ?_
  refine sw_aload_nf (dL_law_22.at 30 rfl) rfl rfl ?_
  refine sw_iload_n (dL_law_22.at 31 rfl) rfl rfl ?_
  refine sw_iconst (dL_law_22.at 32 rfl) ?_
  refine sw_iadd (dL_law_22.at 33 rfl) ?_
  refine sw_topI (y := ((ii + 1 : Nat) : Int)) (by first | rfl | (congr 1)) ?_
  refine sw_sld (dL_law_22.at 34 rfl) hG hv.1 hv.2.1 ?_
  replace hv := hv.2.2
  refine sw_aload_nf (dL_law_22.at 35 rfl) rfl rfl ?_
  refine sw_iload_n (dL_law_22.at 36 rfl) rfl rfl ?_
  refine sw_iconst (dL_law_22.at 37 rfl) ?_
  refine sw_iadd (dL_law_22.at 38 rfl) ?_
  refine sw_topI (y := ((ii + 2 : Nat) : Int)) (by first | rfl | (congr 1)) ?_
  refine sw_sld (dL_law_22.at 39 rfl) hG hv.1 hv.2.1 ?_
  replace hv := hv.2.2
  refine sw_aload_nf (dL_law_22.at 40 rfl) rfl rfl ?_
  refine sw_iload_n (dL_law_22.at 41 rfl) rfl rfl ?_
  refine sw_iconst (dL_law_22.at 42 rfl) ?_
  refine sw_iadd (dL_law_22.at 43 rfl) ?_
  refine sw_topI (y := ((ii + 3 : Nat) : Int)) (by first | rfl | (congr 1)) ?_
  refine sw_sld (dL_law_22.at 44 rfl) hG hv.1 hv.2.1 ?_
  replace hv := hv.2.2
  refine sw_callV (B' := BL) (As := [vi ((G.2.2 (((ii + 1 : Nat) : Int).toNat)).toInt), vi ((G.2.2 (((ii + 2 : Nat) : Int).toNat)).toInt), vi ((G.2.2 (((ii + 3 : Nat) : Int).toNat)).toInt)]) (mc := 0) (ms := 0) (dL_law_22.at 45 rfl) lk_L_193 (S_lt 0 (by decide)) (S_0 nw nx g) rfl rfl (Nat.le_of_ble_eq_true rfl) rfl hB1 hB2 ?_
  refine c_X8_join (x := ((G.2.2 (((ii + 1 : Nat) : Int).toNat)).toInt)) (y := ((G.2.2 (((ii + 2 : Nat) : Int).toNat)).toInt)) (sd := ((G.2.2 (((ii + 3 : Nat) : Int).toNat)).toInt)) (P := P) (j := j + 37) hv.1 hv.2.1 hv.2.2.1 hv.2.2.2.1 hv.2.2.2.2.1 hv.2.2.2.2.2.1 ?_
  replace hv := hv.2.2.2.2.2.2
  refine sw_aload_n (dL_law_22.at 46 rfl) rfl rfl ?_
  refine sw_aload_nf (dL_law_22.at 47 rfl) rfl rfl ?_
  refine sw_iload_n (dL_law_22.at 48 rfl) rfl rfl ?_
  refine sw_iconst (dL_law_22.at 49 rfl) ?_
  refine sw_iadd (dL_law_23.at 0 rfl) ?_
  refine sw_topI (y := ((ii + 1 : Nat) : Int)) (by first | rfl | (congr 1)) ?_
  refine sw_sld (dL_law_23.at 1 rfl) hG hv.1 hv.2.1 ?_
  replace hv := hv.2.2
  refine sw_aload_nf (dL_law_23.at 2 rfl) rfl rfl ?_
  refine sw_iload_n (dL_law_23.at 3 rfl) rfl rfl ?_
  refine sw_iconst (dL_law_23.at 4 rfl) ?_
  refine sw_iadd (dL_law_23.at 5 rfl) ?_
  refine sw_topI (y := ((ii + 2 : Nat) : Int)) (by first | rfl | (congr 1)) ?_
  refine sw_sld (dL_law_23.at 6 rfl) hG hv.1 hv.2.1 ?_
  replace hv := hv.2.2
  refine sw_aload_nf (dL_law_23.at 7 rfl) rfl rfl ?_
  refine sw_iload_n (dL_law_23.at 8 rfl) rfl rfl ?_
  refine sw_iconst (dL_law_23.at 9 rfl) ?_
  refine sw_iadd (dL_law_23.at 10 rfl) ?_
  refine sw_topI (y := ((ii + 3 : Nat) : Int)) (by first | rfl | (congr 1)) ?_
  refine sw_sld (dL_law_23.at 11 rfl) hG hv.1 hv.2.1 ?_
  replace hv := hv.2.2
  refine sw_callV (B' := BL) (As := [vi ((G.2.2 (((ii + 1 : Nat) : Int).toNat)).toInt), vi ((G.2.2 (((ii + 2 : Nat) : Int).toNat)).toInt), vi ((G.2.2 (((ii + 3 : Nat) : Int).toNat)).toInt)]) (mc := 0) (ms := 0) (dL_law_23.at 12 rfl) lk_L_196 (S_lt 49 (by decide)) (S_49 nw nx g) rfl rfl (Nat.le_of_ble_eq_true rfl) rfl hB1 hB2 ?_
  refine c_X9_join (x := ((G.2.2 (((ii + 1 : Nat) : Int).toNat)).toInt)) (y := ((G.2.2 (((ii + 2 : Nat) : Int).toNat)).toInt)) (sd := ((G.2.2 (((ii + 3 : Nat) : Int).toNat)).toInt)) (P := P) (j := j + 36) hv.1 hv.2.1 hv.2.2.1 hv.2.2.2.1 hv.2.2.2.2.1 hv.2.2.2.2.2.1 hv.2.2.2.2.2.2.1 (fun c_1 h_1 => ?_)
  replace hv := hv.2.2.2.2.2.2.2 c_1 h_1
  refine sw_icmp_same (tgt := 2308) (dL_law_23.at 13 rfl) (by decide) ?_
  exact hv

theorem cs_join {G : GG} {j nw nx gn : Nat} {g : Nat → Sh} {c : Nat → Nat → Int} {post : Option AV → AM → Prop} {BL : BB} {P : GD} {T : PT} {ln : Nat} {bo : Nat → Nat} {n : Nat} {nb : Nat → Nat} {MT : Nat} {MA : Nat} {ii : Nat} (hG : G.2.1 < 2147483648) (hB1 : BL.1 ≤ BL.2.2.1) (hB2 : BL.2.1 ≤ BL.2.2.2) (hii : ii + 6 ≤ G.2.1) (hv : INV c nw nx P T ln bo n nb MT MA) (K : ∀ c2 : Nat → Nat → Int, INV c2 nw nx P T ln bo n nb MT MA → SW G (j + 40) mL_law 2308 [some (vf 0), some (vr (0)), some (vr (49)), some (vi (((ii : Nat) : Int)))] [] (S nw nx g, 78 + gn, c2) BL post) : SW G (j + 40) mL_law 1681 [some (vf 0), some (vr (0)), some (vr (49)), some (vi (((ii : Nat) : Int)))] [] (S nw nx g, 78 + gn, c) BL post := by
  have hv0 := hv
  obtain ⟨hIT, hIP, hIR, hIE, ⟨hwx, hSP, ⟨⟨hV, hC, hDn, hSi⟩, ⟨hOr, hMi, hSp, hBr, hBt⟩, ⟨hLa, hGP, hP0, hHT⟩, hMv⟩, hbo, hbl, hE, hM, hln⟩, ⟨hPR, hCR, hRR⟩, hIM⟩ := hv
  have hIM0 := hIM
  obtain ⟨⟨hMT60, hMA30, hMA0, hMf, hMs⟩, ⟨hM1, hM2, hM3, hM4⟩, hM5, hM6⟩ := hIM
  have hnw : nw = 21 ∨ nw = 35 := by omega
  have hRb := hC.1.1
  have hLn := hC.1.2
  have hLn2 : ∀ s, s < gR P → s + 1 < gN P := hC.1.2
  refine g_law_join (P := P) hG hB1 hB2 ?_
  refine ⟨?_, ?_, ⟨?_, ?_, ⟨?_, ?_, ⟨?_, ?_, ?_, ?_, ?_, ?_, ⟨?_, ?_, ⟨?_, ?_, ⟨?_, ?_, ⟨?_, ?_, ?_, ?_, ?_, ?_, ?_, fun c_1 h_1 => ?_⟩⟩⟩⟩⟩⟩⟩⟩
  all_goals first | assumption | omega | exact i32rng _ | exact K _ (INV_SC hv0 h_1)

set_option maxHeartbeats 2000000 in
set_option maxRecDepth 20000 in
theorem g_law_moves {G : GG} {j nw nx gn : Nat} {g : Nat → Sh} {c : Nat → Nat → Int} {post : Option AV → AM → Prop} {BL : BB} {P : GD} {ii : Nat} (hG : G.2.1 < 2147483648) (hB1 : BL.1 ≤ BL.2.2.1) (hB2 : BL.2.1 ≤ BL.2.2.2)  (hv : (0 ≤ ((ii + 1 : Nat) : Int)) ∧ (((ii + 1 : Nat) : Int) < (G.2.1 : Int)) ∧ ((0 ≤ ((ii + 2 : Nat) : Int)) ∧ (((ii + 2 : Nat) : Int) < (G.2.1 : Int)) ∧ ((0 ≤ ((ii + 3 : Nat) : Int)) ∧ (((ii + 3 : Nat) : Int) < (G.2.1 : Int)) ∧ ((nw = 21 ∨ nw = 35) ∧ (EL c nw P) ∧ (GV P) ∧ (hLn P) ∧ (GC P) ∧ (hSp P) ∧ (hMv P) ∧ (-2147483648 ≤ ((G.2.2 (((ii + 1 : Nat) : Int).toNat)).toInt) ∧ ((G.2.2 (((ii + 1 : Nat) : Int).toNat)).toInt) < 2147483648) ∧ (-2147483648 ≤ ((G.2.2 (((ii + 2 : Nat) : Int).toNat)).toInt) ∧ ((G.2.2 (((ii + 2 : Nat) : Int).toNat)).toInt) < 2147483648) ∧ (-2147483648 ≤ ((G.2.2 (((ii + 3 : Nat) : Int).toNat)).toInt) ∧ ((G.2.2 (((ii + 3 : Nat) : Int).toNat)).toInt) < 2147483648) ∧ (∀ c_1 : Nat → Nat → Int, S5 c c_1 → (0 ≤ ((ii + 1 : Nat) : Int)) ∧ (((ii + 1 : Nat) : Int) < (G.2.1 : Int)) ∧ ((0 ≤ ((ii + 2 : Nat) : Int)) ∧ (((ii + 2 : Nat) : Int) < (G.2.1 : Int)) ∧ ((0 ≤ ((ii + 3 : Nat) : Int)) ∧ (((ii + 3 : Nat) : Int) < (G.2.1 : Int)) ∧ ((ML c_1 P) ∧ (GV P) ∧ (GC P) ∧ (hSp P) ∧ (hMv P) ∧ (-2147483648 ≤ ((G.2.2 (((ii + 1 : Nat) : Int).toNat)).toInt) ∧ ((G.2.2 (((ii + 1 : Nat) : Int).toNat)).toInt) < 2147483648) ∧ (-2147483648 ≤ ((G.2.2 (((ii + 2 : Nat) : Int).toNat)).toInt) ∧ ((G.2.2 (((ii + 2 : Nat) : Int).toNat)).toInt) < 2147483648) ∧ (-2147483648 ≤ ((G.2.2 (((ii + 3 : Nat) : Int).toNat)).toInt) ∧ ((G.2.2 (((ii + 3 : Nat) : Int).toNat)).toInt) < 2147483648) ∧ (∀ c_2 : Nat → Nat → Int, SC c_1 c_2 → SW G (j + 40) mL_law 2308 [some (vf 0), some (vr (0)), some (vr (49)), some (vi (((ii : Nat) : Int)))] [] (S nw nx g, 78 + gn, c_2) BL post))))))))) :
    SW G (j + 40) mL_law 1724 [some (vf 0), some (vr (0)), some (vr (49)), some (vi (((ii : Nat) : Int)))] [] (S nw nx g, 78 + gn, c) BL post := by
  refine sw_aload_n (dL_law_23.at 16 rfl) rfl rfl ?_
  refine sw_aload_nf (dL_law_23.at 17 rfl) rfl rfl ?_
  refine sw_iload_n (dL_law_23.at 18 rfl) rfl rfl ?_
  refine sw_iconst (dL_law_23.at 19 rfl) ?_
  refine sw_iadd (dL_law_23.at 20 rfl) ?_
  refine sw_topI (y := ((ii + 1 : Nat) : Int)) (by first | rfl | (congr 1)) ?_
  refine sw_sld (dL_law_23.at 21 rfl) hG hv.1 hv.2.1 ?_
  replace hv := hv.2.2
  refine sw_aload_nf (dL_law_23.at 22 rfl) rfl rfl ?_
  refine sw_iload_n (dL_law_23.at 23 rfl) rfl rfl ?_
  refine sw_iconst (dL_law_23.at 24 rfl) ?_
  refine sw_iadd (dL_law_23.at 25 rfl) ?_
  refine sw_topI (y := ((ii + 2 : Nat) : Int)) (by first | rfl | (congr 1)) ?_
  refine sw_sld (dL_law_23.at 26 rfl) hG hv.1 hv.2.1 ?_
  replace hv := hv.2.2
  refine sw_aload_nf (dL_law_23.at 27 rfl) rfl rfl ?_
  refine sw_iload_n (dL_law_23.at 28 rfl) rfl rfl ?_
  refine sw_iconst (dL_law_23.at 29 rfl) ?_
  refine sw_iadd (dL_law_23.at 30 rfl) ?_
  refine sw_topI (y := ((ii + 3 : Nat) : Int)) (by first | rfl | (congr 1)) ?_
  refine sw_sld (dL_law_23.at 31 rfl) hG hv.1 hv.2.1 ?_
  replace hv := hv.2.2
  refine sw_callV (B' := BL) (As := [vi ((G.2.2 (((ii + 1 : Nat) : Int).toNat)).toInt), vi ((G.2.2 (((ii + 2 : Nat) : Int).toNat)).toInt), vi ((G.2.2 (((ii + 3 : Nat) : Int).toNat)).toInt)]) (mc := 0) (ms := 0) (dL_law_23.at 32 rfl) lk_L_197 (S_lt 0 (by decide)) (S_0 nw nx g) rfl rfl (Nat.le_of_ble_eq_true rfl) rfl hB1 hB2 ?_
  refine c_X8_moves (x := ((G.2.2 (((ii + 1 : Nat) : Int).toNat)).toInt)) (k := ((G.2.2 (((ii + 2 : Nat) : Int).toNat)).toInt)) (l := ((G.2.2 (((ii + 3 : Nat) : Int).toNat)).toInt)) (P := P) (j := j + 34) hv.1 hv.2.1 hv.2.2.1 hv.2.2.2.1 hv.2.2.2.2.1 hv.2.2.2.2.2.1 hv.2.2.2.2.2.2.1 hv.2.2.2.2.2.2.2.1 hv.2.2.2.2.2.2.2.2.1 hv.2.2.2.2.2.2.2.2.2.1 (fun c_1 h_1 => ?_)
  replace hv := hv.2.2.2.2.2.2.2.2.2.2 c_1 h_1
  refine sw_aload_n (dL_law_23.at 33 rfl) rfl rfl ?_
  refine sw_aload_nf (dL_law_23.at 34 rfl) rfl rfl ?_
  refine sw_iload_n (dL_law_23.at 35 rfl) rfl rfl ?_
  refine sw_iconst (dL_law_23.at 36 rfl) ?_
  refine sw_iadd (dL_law_23.at 37 rfl) ?_
  refine sw_topI (y := ((ii + 1 : Nat) : Int)) (by first | rfl | (congr 1)) ?_
  refine sw_sld (dL_law_23.at 38 rfl) hG hv.1 hv.2.1 ?_
  replace hv := hv.2.2
  refine sw_aload_nf (dL_law_23.at 39 rfl) rfl rfl ?_
  refine sw_iload_n (dL_law_23.at 40 rfl) rfl rfl ?_
  refine sw_iconst (dL_law_23.at 41 rfl) ?_
  refine sw_iadd (dL_law_23.at 42 rfl) ?_
  refine sw_topI (y := ((ii + 2 : Nat) : Int)) (by first | rfl | (congr 1)) ?_
  refine sw_sld (dL_law_23.at 43 rfl) hG hv.1 hv.2.1 ?_
  replace hv := hv.2.2
  refine sw_aload_nf (dL_law_23.at 44 rfl) rfl rfl ?_
  refine sw_iload_n (dL_law_23.at 45 rfl) rfl rfl ?_
  refine sw_iconst (dL_law_23.at 46 rfl) ?_
  refine sw_iadd (dL_law_23.at 47 rfl) ?_
  refine sw_topI (y := ((ii + 3 : Nat) : Int)) (by first | rfl | (congr 1)) ?_
  refine sw_sld (dL_law_23.at 48 rfl) hG hv.1 hv.2.1 ?_
  replace hv := hv.2.2
  refine sw_callV (B' := BL) (As := [vi ((G.2.2 (((ii + 1 : Nat) : Int).toNat)).toInt), vi ((G.2.2 (((ii + 2 : Nat) : Int).toNat)).toInt), vi ((G.2.2 (((ii + 3 : Nat) : Int).toNat)).toInt)]) (mc := 0) (ms := 0) (dL_law_23.at 49 rfl) lk_L_200 (S_lt 49 (by decide)) (S_49 nw nx g) rfl rfl (Nat.le_of_ble_eq_true rfl) rfl hB1 hB2 ?_
  refine c_X9_moves (x := ((G.2.2 (((ii + 1 : Nat) : Int).toNat)).toInt)) (k := ((G.2.2 (((ii + 2 : Nat) : Int).toNat)).toInt)) (l := ((G.2.2 (((ii + 3 : Nat) : Int).toNat)).toInt)) (P := P) (j := j + 22) hv.1 hv.2.1 hv.2.2.1 hv.2.2.2.1 hv.2.2.2.2.1 hv.2.2.2.2.2.1 hv.2.2.2.2.2.2.1 hv.2.2.2.2.2.2.2.1 (fun c_2 h_2 => ?_)
  replace hv := hv.2.2.2.2.2.2.2.2 c_2 h_2
  refine sw_icmp_same (tgt := 2308) (dL_law_24.at 0 rfl) (by decide) ?_
  exact hv

theorem cs_moves {G : GG} {j nw nx gn : Nat} {g : Nat → Sh} {c : Nat → Nat → Int} {post : Option AV → AM → Prop} {BL : BB} {P : GD} {T : PT} {ln : Nat} {bo : Nat → Nat} {n : Nat} {nb : Nat → Nat} {MT : Nat} {MA : Nat} {ii : Nat} (hG : G.2.1 < 2147483648) (hB1 : BL.1 ≤ BL.2.2.1) (hB2 : BL.2.1 ≤ BL.2.2.2) (hii : ii + 6 ≤ G.2.1) (hv : INV c nw nx P T ln bo n nb MT MA) (K : ∀ c2 : Nat → Nat → Int, INV c2 nw nx P T ln bo n nb MT MA → SW G (j + 40) mL_law 2308 [some (vf 0), some (vr (0)), some (vr (49)), some (vi (((ii : Nat) : Int)))] [] (S nw nx g, 78 + gn, c2) BL post) : SW G (j + 40) mL_law 1724 [some (vf 0), some (vr (0)), some (vr (49)), some (vi (((ii : Nat) : Int)))] [] (S nw nx g, 78 + gn, c) BL post := by
  have hv0 := hv
  obtain ⟨hIT, hIP, hIR, hIE, ⟨hwx, hSP, ⟨⟨hV, hC, hDn, hSi⟩, ⟨hOr, hMi, hSp, hBr, hBt⟩, ⟨hLa, hGP, hP0, hHT⟩, hMv⟩, hbo, hbl, hE, hM, hln⟩, ⟨hPR, hCR, hRR⟩, hIM⟩ := hv
  have hIM0 := hIM
  obtain ⟨⟨hMT60, hMA30, hMA0, hMf, hMs⟩, ⟨hM1, hM2, hM3, hM4⟩, hM5, hM6⟩ := hIM
  have hnw : nw = 21 ∨ nw = 35 := by omega
  have hRb := hC.1.1
  have hLn := hC.1.2
  have hLn2 : ∀ s, s < gR P → s + 1 < gN P := hC.1.2
  refine g_law_moves (P := P) hG hB1 hB2 ?_
  refine ⟨?_, ?_, ⟨?_, ?_, ⟨?_, ?_, ⟨?_, ?_, ?_, ?_, ?_, ?_, ?_, ?_, ?_, ?_, fun c_1 h_1 => ⟨?_, ?_, ⟨?_, ?_, ⟨?_, ?_, ⟨?_, ?_, ?_, ?_, ?_, ?_, ?_, ?_, fun c_2 h_2 => ?_⟩⟩⟩⟩⟩⟩⟩⟩
  all_goals first | assumption | omega | exact i32rng _ | exact ML_row hM (fun a ha hb => h_1 a (by omega)) | exact RR_row hRR (fun a ha hb => h_1 a (by omega)) | exact K _ (INV_SC (INV_C0 hv0 (fun a ha hb => h_1 a (by omega))) h_2)

set_option maxHeartbeats 2000000 in
set_option maxRecDepth 20000 in
theorem g_law_inversions {G : GG} {j nw nx gn : Nat} {g : Nat → Sh} {c : Nat → Nat → Int} {post : Option AV → AM → Prop} {BL : BB} {P : GD} {ii : Nat} (hG : G.2.1 < 2147483648) (hB1 : BL.1 ≤ BL.2.2.1) (hB2 : BL.2.1 ≤ BL.2.2.2)  (hv : (0 ≤ ((ii + 1 : Nat) : Int)) ∧ (((ii + 1 : Nat) : Int) < (G.2.1 : Int)) ∧ ((nw = 21 ∨ nw = 35) ∧ (EL c nw P) ∧ (GV P) ∧ (-2147483648 ≤ ((G.2.2 (((ii + 1 : Nat) : Int).toNat)).toInt) ∧ ((G.2.2 (((ii + 1 : Nat) : Int).toNat)).toInt) < 2147483648) ∧ ((0 ≤ ((ii + 1 : Nat) : Int)) ∧ (((ii + 1 : Nat) : Int) < (G.2.1 : Int)) ∧ ((ML c P) ∧ (GV P) ∧ (GC P) ∧ (-2147483648 ≤ ((G.2.2 (((ii + 1 : Nat) : Int).toNat)).toInt) ∧ ((G.2.2 (((ii + 1 : Nat) : Int).toNat)).toInt) < 2147483648) ∧ (∀ c_1 : Nat → Nat → Int, SC c c_1 → SW G (j + 40) mL_law 2308 [some (vf 0), some (vr (0)), some (vr (49)), some (vi (((ii : Nat) : Int)))] [] (S nw nx g, 78 + gn, c_1) BL post))))) :
    SW G (j + 40) mL_law 1767 [some (vf 0), some (vr (0)), some (vr (49)), some (vi (((ii : Nat) : Int)))] [] (S nw nx g, 78 + gn, c) BL post := by
  refine sw_aload_n (dL_law_24.at 3 rfl) rfl rfl ?_
  refine sw_aload_nf (dL_law_24.at 4 rfl) rfl rfl ?_
  refine sw_iload_n (dL_law_24.at 5 rfl) rfl rfl ?_
  refine sw_iconst (dL_law_24.at 6 rfl) ?_
  refine sw_iadd (dL_law_24.at 7 rfl) ?_
  refine sw_topI (y := ((ii + 1 : Nat) : Int)) (by first | rfl | (congr 1)) ?_
  refine sw_sld (dL_law_24.at 8 rfl) hG hv.1 hv.2.1 ?_
  replace hv := hv.2.2
  refine sw_callV (B' := BL) (As := [vi ((G.2.2 (((ii + 1 : Nat) : Int).toNat)).toInt)]) (mc := 0) (ms := 0) (dL_law_24.at 9 rfl) lk_L_201 (S_lt 0 (by decide)) (S_0 nw nx g) rfl rfl (Nat.le_of_ble_eq_true rfl) rfl hB1 hB2 ?_
  refine c_X8_inversions (x := ((G.2.2 (((ii + 1 : Nat) : Int).toNat)).toInt)) (P := P) (j := j + 38) hv.1 hv.2.1 hv.2.2.1 hv.2.2.2.1 ?_
  replace hv := hv.2.2.2.2
  refine sw_aload_n (dL_law_24.at 10 rfl) rfl rfl ?_
  refine sw_aload_nf (dL_law_24.at 11 rfl) rfl rfl ?_
  refine sw_iload_n (dL_law_24.at 12 rfl) rfl rfl ?_
  refine sw_iconst (dL_law_24.at 13 rfl) ?_
  refine sw_iadd (dL_law_24.at 14 rfl) ?_
  refine sw_topI (y := ((ii + 1 : Nat) : Int)) (by first | rfl | (congr 1)) ?_
  refine sw_sld (dL_law_24.at 15 rfl) hG hv.1 hv.2.1 ?_
  replace hv := hv.2.2
  refine sw_callV (B' := BL) (As := [vi ((G.2.2 (((ii + 1 : Nat) : Int).toNat)).toInt)]) (mc := 0) (ms := 0) (dL_law_24.at 16 rfl) lk_L_204 (S_lt 49 (by decide)) (S_49 nw nx g) rfl rfl (Nat.le_of_ble_eq_true rfl) rfl hB1 hB2 ?_
  refine c_X9_inversions (x := ((G.2.2 (((ii + 1 : Nat) : Int).toNat)).toInt)) (P := P) (j := j + 37) hv.1 hv.2.1 hv.2.2.1 hv.2.2.2.1 (fun c_1 h_1 => ?_)
  replace hv := hv.2.2.2.2 c_1 h_1
  refine sw_lcmp_same (tgt := 2308) (dL_law_24.at 17 rfl) (dL_law_24.at 18 rfl) (by decide) ?_
  exact hv

theorem cs_inversions {G : GG} {j nw nx gn : Nat} {g : Nat → Sh} {c : Nat → Nat → Int} {post : Option AV → AM → Prop} {BL : BB} {P : GD} {T : PT} {ln : Nat} {bo : Nat → Nat} {n : Nat} {nb : Nat → Nat} {MT : Nat} {MA : Nat} {ii : Nat} (hG : G.2.1 < 2147483648) (hB1 : BL.1 ≤ BL.2.2.1) (hB2 : BL.2.1 ≤ BL.2.2.2) (hii : ii + 6 ≤ G.2.1) (hv : INV c nw nx P T ln bo n nb MT MA) (K : ∀ c2 : Nat → Nat → Int, INV c2 nw nx P T ln bo n nb MT MA → SW G (j + 40) mL_law 2308 [some (vf 0), some (vr (0)), some (vr (49)), some (vi (((ii : Nat) : Int)))] [] (S nw nx g, 78 + gn, c2) BL post) : SW G (j + 40) mL_law 1767 [some (vf 0), some (vr (0)), some (vr (49)), some (vi (((ii : Nat) : Int)))] [] (S nw nx g, 78 + gn, c) BL post := by
  have hv0 := hv
  obtain ⟨hIT, hIP, hIR, hIE, ⟨hwx, hSP, ⟨⟨hV, hC, hDn, hSi⟩, ⟨hOr, hMi, hSp, hBr, hBt⟩, ⟨hLa, hGP, hP0, hHT⟩, hMv⟩, hbo, hbl, hE, hM, hln⟩, ⟨hPR, hCR, hRR⟩, hIM⟩ := hv
  have hIM0 := hIM
  obtain ⟨⟨hMT60, hMA30, hMA0, hMf, hMs⟩, ⟨hM1, hM2, hM3, hM4⟩, hM5, hM6⟩ := hIM
  have hnw : nw = 21 ∨ nw = 35 := by omega
  have hRb := hC.1.1
  have hLn := hC.1.2
  have hLn2 : ∀ s, s < gR P → s + 1 < gN P := hC.1.2
  refine g_law_inversions (P := P) hG hB1 hB2 ?_
  refine ⟨?_, ?_, ⟨?_, ?_, ?_, ?_, ⟨?_, ?_, ⟨?_, ?_, ?_, ?_, fun c_1 h_1 => ?_⟩⟩⟩⟩
  all_goals first | assumption | omega | exact i32rng _ | exact K _ (INV_SC hv0 h_1)

set_option maxHeartbeats 2000000 in
set_option maxRecDepth 20000 in
theorem g_law_mirrors {G : GG} {j nw nx gn : Nat} {g : Nat → Sh} {c : Nat → Nat → Int} {post : Option AV → AM → Prop} {BL : BB} {P : GD} {ii : Nat} (hG : G.2.1 < 2147483648) (hB1 : BL.1 ≤ BL.2.2.1) (hB2 : BL.2.1 ≤ BL.2.2.2)  (hv : (0 ≤ ((ii + 1 : Nat) : Int)) ∧ (((ii + 1 : Nat) : Int) < (G.2.1 : Int)) ∧ ((nw = 21 ∨ nw = 35) ∧ (EL c nw P) ∧ (GV P) ∧ (-2147483648 ≤ ((G.2.2 (((ii + 1 : Nat) : Int).toNat)).toInt) ∧ ((G.2.2 (((ii + 1 : Nat) : Int).toNat)).toInt) < 2147483648) ∧ ((0 ≤ ((ii + 1 : Nat) : Int)) ∧ (((ii + 1 : Nat) : Int) < (G.2.1 : Int)) ∧ ((ML c P) ∧ (GV P) ∧ (GC P) ∧ (hMi P) ∧ (-2147483648 ≤ ((G.2.2 (((ii + 1 : Nat) : Int).toNat)).toInt) ∧ ((G.2.2 (((ii + 1 : Nat) : Int).toNat)).toInt) < 2147483648) ∧ (∀ c_1 : Nat → Nat → Int, SC c c_1 → SW G (j + 40) mL_law 2308 [some (vf 0), some (vr (0)), some (vr (49)), some (vi (((ii : Nat) : Int)))] [] (S nw nx g, 78 + gn, c_1) BL post))))) :
    SW G (j + 40) mL_law 1791 [some (vf 0), some (vr (0)), some (vr (49)), some (vi (((ii : Nat) : Int)))] [] (S nw nx g, 78 + gn, c) BL post := by
  refine sw_aload_n (dL_law_24.at 21 rfl) rfl rfl ?_
  refine sw_aload_nf (dL_law_24.at 22 rfl) rfl rfl ?_
  refine sw_iload_n (dL_law_24.at 23 rfl) rfl rfl ?_
  refine sw_iconst (dL_law_24.at 24 rfl) ?_
  refine sw_iadd (dL_law_24.at 25 rfl) ?_
  refine sw_topI (y := ((ii + 1 : Nat) : Int)) (by first | rfl | (congr 1)) ?_
  refine sw_sld (dL_law_24.at 26 rfl) hG hv.1 hv.2.1 ?_
  replace hv := hv.2.2
  refine sw_callV (B' := BL) (As := [vi ((G.2.2 (((ii + 1 : Nat) : Int).toNat)).toInt)]) (mc := 0) (ms := 0) (dL_law_24.at 27 rfl) lk_L_205 (S_lt 0 (by decide)) (S_0 nw nx g) rfl rfl (Nat.le_of_ble_eq_true rfl) rfl hB1 hB2 ?_
  refine c_X8_mirrors (x := ((G.2.2 (((ii + 1 : Nat) : Int).toNat)).toInt)) (P := P) (j := j + 38) hv.1 hv.2.1 hv.2.2.1 hv.2.2.2.1 ?_
  replace hv := hv.2.2.2.2
  refine sw_aload_n (dL_law_24.at 28 rfl) rfl rfl ?_
  refine sw_aload_nf (dL_law_24.at 29 rfl) rfl rfl ?_
  refine sw_iload_n (dL_law_24.at 30 rfl) rfl rfl ?_
  refine sw_iconst (dL_law_24.at 31 rfl) ?_
  refine sw_iadd (dL_law_24.at 32 rfl) ?_
  refine sw_topI (y := ((ii + 1 : Nat) : Int)) (by first | rfl | (congr 1)) ?_
  refine sw_sld (dL_law_24.at 33 rfl) hG hv.1 hv.2.1 ?_
  replace hv := hv.2.2
  refine sw_callV (B' := BL) (As := [vi ((G.2.2 (((ii + 1 : Nat) : Int).toNat)).toInt)]) (mc := 0) (ms := 0) (dL_law_24.at 34 rfl) lk_L_208 (S_lt 49 (by decide)) (S_49 nw nx g) rfl rfl (Nat.le_of_ble_eq_true rfl) rfl hB1 hB2 ?_
  refine c_X9_mirrors (x := ((G.2.2 (((ii + 1 : Nat) : Int).toNat)).toInt)) (P := P) (j := j + 36) hv.1 hv.2.1 hv.2.2.1 hv.2.2.2.1 hv.2.2.2.2.1 (fun c_1 h_1 => ?_)
  replace hv := hv.2.2.2.2.2 c_1 h_1
  refine sw_icmp_same (tgt := 2308) (dL_law_24.at 35 rfl) (by decide) ?_
  exact hv

theorem cs_mirrors {G : GG} {j nw nx gn : Nat} {g : Nat → Sh} {c : Nat → Nat → Int} {post : Option AV → AM → Prop} {BL : BB} {P : GD} {T : PT} {ln : Nat} {bo : Nat → Nat} {n : Nat} {nb : Nat → Nat} {MT : Nat} {MA : Nat} {ii : Nat} (hG : G.2.1 < 2147483648) (hB1 : BL.1 ≤ BL.2.2.1) (hB2 : BL.2.1 ≤ BL.2.2.2) (hii : ii + 6 ≤ G.2.1) (hv : INV c nw nx P T ln bo n nb MT MA) (K : ∀ c2 : Nat → Nat → Int, INV c2 nw nx P T ln bo n nb MT MA → SW G (j + 40) mL_law 2308 [some (vf 0), some (vr (0)), some (vr (49)), some (vi (((ii : Nat) : Int)))] [] (S nw nx g, 78 + gn, c2) BL post) : SW G (j + 40) mL_law 1791 [some (vf 0), some (vr (0)), some (vr (49)), some (vi (((ii : Nat) : Int)))] [] (S nw nx g, 78 + gn, c) BL post := by
  have hv0 := hv
  obtain ⟨hIT, hIP, hIR, hIE, ⟨hwx, hSP, ⟨⟨hV, hC, hDn, hSi⟩, ⟨hOr, hMi, hSp, hBr, hBt⟩, ⟨hLa, hGP, hP0, hHT⟩, hMv⟩, hbo, hbl, hE, hM, hln⟩, ⟨hPR, hCR, hRR⟩, hIM⟩ := hv
  have hIM0 := hIM
  obtain ⟨⟨hMT60, hMA30, hMA0, hMf, hMs⟩, ⟨hM1, hM2, hM3, hM4⟩, hM5, hM6⟩ := hIM
  have hnw : nw = 21 ∨ nw = 35 := by omega
  have hRb := hC.1.1
  have hLn := hC.1.2
  have hLn2 : ∀ s, s < gR P → s + 1 < gN P := hC.1.2
  refine g_law_mirrors (P := P) hG hB1 hB2 ?_
  refine ⟨?_, ?_, ⟨?_, ?_, ?_, ?_, ⟨?_, ?_, ⟨?_, ?_, ?_, ?_, ?_, fun c_1 h_1 => ?_⟩⟩⟩⟩
  all_goals first | assumption | omega | exact i32rng _ | exact K _ (INV_SC hv0 h_1)

set_option maxHeartbeats 2000000 in
set_option maxRecDepth 20000 in
theorem g_law_mirror {G : GG} {j nw nx gn : Nat} {g : Nat → Sh} {c : Nat → Nat → Int} {post : Option AV → AM → Prop} {BL : BB} {P : GD} {ii : Nat} (hG : G.2.1 < 2147483648) (hB1 : BL.1 ≤ BL.2.2.1) (hB2 : BL.2.1 ≤ BL.2.2.2)  (hv : (0 ≤ ((ii + 1 : Nat) : Int)) ∧ (((ii + 1 : Nat) : Int) < (G.2.1 : Int)) ∧ ((nw = 21 ∨ nw = 35) ∧ (EL c nw P) ∧ (GV P) ∧ (-2147483648 ≤ ((G.2.2 (((ii + 1 : Nat) : Int).toNat)).toInt) ∧ ((G.2.2 (((ii + 1 : Nat) : Int).toNat)).toInt) < 2147483648) ∧ ((0 ≤ ((ii + 1 : Nat) : Int)) ∧ (((ii + 1 : Nat) : Int) < (G.2.1 : Int)) ∧ ((ML c P) ∧ (GV P) ∧ (GC P) ∧ (hMi P) ∧ (-2147483648 ≤ ((G.2.2 (((ii + 1 : Nat) : Int).toNat)).toInt) ∧ ((G.2.2 (((ii + 1 : Nat) : Int).toNat)).toInt) < 2147483648) ∧ (∀ c_1 : Nat → Nat → Int, SC c c_1 → SW G (j + 40) mL_law 2308 [some (vf 0), some (vr (0)), some (vr (49)), some (vi (((ii : Nat) : Int)))] [] (S nw nx g, 78 + gn, c_1) BL post))))) :
    SW G (j + 40) mL_law 1814 [some (vf 0), some (vr (0)), some (vr (49)), some (vi (((ii : Nat) : Int)))] [] (S nw nx g, 78 + gn, c) BL post := by
  refine sw_aload_n (dL_law_24.at 38 rfl) rfl rfl ?_
  refine sw_aload_nf (dL_law_24.at 39 rfl) rfl rfl ?_
  refine sw_iload_n (dL_law_24.at 40 rfl) rfl rfl ?_
  refine sw_iconst (dL_law_24.at 41 rfl) ?_
  refine sw_iadd (dL_law_24.at 42 rfl) ?_
  refine sw_topI (y := ((ii + 1 : Nat) : Int)) (by first | rfl | (congr 1)) ?_
  refine sw_sld (dL_law_24.at 43 rfl) hG hv.1 hv.2.1 ?_
  replace hv := hv.2.2
  refine sw_callV (B' := BL) (As := [vi ((G.2.2 (((ii + 1 : Nat) : Int).toNat)).toInt)]) (mc := 0) (ms := 0) (dL_law_24.at 44 rfl) lk_L_209 (S_lt 0 (by decide)) (S_0 nw nx g) rfl rfl (Nat.le_of_ble_eq_true rfl) rfl hB1 hB2 ?_
  refine c_X8_mirror (x := ((G.2.2 (((ii + 1 : Nat) : Int).toNat)).toInt)) (P := P) (j := j + 38) hv.1 hv.2.1 hv.2.2.1 hv.2.2.2.1 ?_
  replace hv := hv.2.2.2.2
  refine sw_aload_n (dL_law_24.at 45 rfl) rfl rfl ?_
  refine sw_aload_nf (dL_law_24.at 46 rfl) rfl rfl ?_
  refine sw_iload_n (dL_law_24.at 47 rfl) rfl rfl ?_
  refine sw_iconst (dL_law_24.at 48 rfl) ?_
  refine sw_iadd (dL_law_24.at 49 rfl) ?_
  refine sw_topI (y := ((ii + 1 : Nat) : Int)) (by first | rfl | (congr 1)) ?_
  refine sw_sld (dL_law_25.at 0 rfl) hG hv.1 hv.2.1 ?_
  replace hv := hv.2.2
  refine sw_callV (B' := BL) (As := [vi ((G.2.2 (((ii + 1 : Nat) : Int).toNat)).toInt)]) (mc := 0) (ms := 0) (dL_law_25.at 1 rfl) lk_L_212 (S_lt 49 (by decide)) (S_49 nw nx g) rfl rfl (Nat.le_of_ble_eq_true rfl) rfl hB1 hB2 ?_
  refine c_X9_mirror (x := ((G.2.2 (((ii + 1 : Nat) : Int).toNat)).toInt)) (P := P) (j := j + 36) hv.1 hv.2.1 hv.2.2.1 hv.2.2.2.1 hv.2.2.2.2.1 (fun c_1 h_1 => ?_)
  replace hv := hv.2.2.2.2.2 c_1 h_1
  refine sw_icmp_same (tgt := 2308) (dL_law_25.at 2 rfl) (by decide) ?_
  exact hv

theorem cs_mirror {G : GG} {j nw nx gn : Nat} {g : Nat → Sh} {c : Nat → Nat → Int} {post : Option AV → AM → Prop} {BL : BB} {P : GD} {T : PT} {ln : Nat} {bo : Nat → Nat} {n : Nat} {nb : Nat → Nat} {MT : Nat} {MA : Nat} {ii : Nat} (hG : G.2.1 < 2147483648) (hB1 : BL.1 ≤ BL.2.2.1) (hB2 : BL.2.1 ≤ BL.2.2.2) (hii : ii + 6 ≤ G.2.1) (hv : INV c nw nx P T ln bo n nb MT MA) (K : ∀ c2 : Nat → Nat → Int, INV c2 nw nx P T ln bo n nb MT MA → SW G (j + 40) mL_law 2308 [some (vf 0), some (vr (0)), some (vr (49)), some (vi (((ii : Nat) : Int)))] [] (S nw nx g, 78 + gn, c2) BL post) : SW G (j + 40) mL_law 1814 [some (vf 0), some (vr (0)), some (vr (49)), some (vi (((ii : Nat) : Int)))] [] (S nw nx g, 78 + gn, c) BL post := by
  have hv0 := hv
  obtain ⟨hIT, hIP, hIR, hIE, ⟨hwx, hSP, ⟨⟨hV, hC, hDn, hSi⟩, ⟨hOr, hMi, hSp, hBr, hBt⟩, ⟨hLa, hGP, hP0, hHT⟩, hMv⟩, hbo, hbl, hE, hM, hln⟩, ⟨hPR, hCR, hRR⟩, hIM⟩ := hv
  have hIM0 := hIM
  obtain ⟨⟨hMT60, hMA30, hMA0, hMf, hMs⟩, ⟨hM1, hM2, hM3, hM4⟩, hM5, hM6⟩ := hIM
  have hnw : nw = 21 ∨ nw = 35 := by omega
  have hRb := hC.1.1
  have hLn := hC.1.2
  have hLn2 : ∀ s, s < gR P → s + 1 < gN P := hC.1.2
  refine g_law_mirror (P := P) hG hB1 hB2 ?_
  refine ⟨?_, ?_, ⟨?_, ?_, ?_, ?_, ⟨?_, ?_, ⟨?_, ?_, ?_, ?_, ?_, fun c_1 h_1 => ?_⟩⟩⟩⟩
  all_goals first | assumption | omega | exact i32rng _ | exact K _ (INV_SC hv0 h_1)

set_option maxHeartbeats 2000000 in
set_option maxRecDepth 20000 in
theorem g_law_cosets {G : GG} {j nw nx gn : Nat} {g : Nat → Sh} {c : Nat → Nat → Int} {post : Option AV → AM → Prop} {BL : BB} {P : GD} {ii : Nat} (hG : G.2.1 < 2147483648) (hB1 : BL.1 ≤ BL.2.2.1) (hB2 : BL.2.1 ≤ BL.2.2.2)  (hv : (0 ≤ ((ii + 1 : Nat) : Int)) ∧ (((ii + 1 : Nat) : Int) < (G.2.1 : Int)) ∧ ((nw = 21 ∨ nw = 35) ∧ (EL c nw P) ∧ (GV P) ∧ (-2147483648 ≤ ((G.2.2 (((ii + 1 : Nat) : Int).toNat)).toInt) ∧ ((G.2.2 (((ii + 1 : Nat) : Int).toNat)).toInt) < 2147483648) ∧ ((0 ≤ ((ii + 1 : Nat) : Int)) ∧ (((ii + 1 : Nat) : Int) < (G.2.1 : Int)) ∧ ((ML c P) ∧ (GV P) ∧ (GC P) ∧ (-2147483648 ≤ ((G.2.2 (((ii + 1 : Nat) : Int).toNat)).toInt) ∧ ((G.2.2 (((ii + 1 : Nat) : Int).toNat)).toInt) < 2147483648) ∧ (∀ c_1 : Nat → Nat → Int, SC c c_1 → SW G (j + 40) mL_law 2308 [some (vf 0), some (vr (0)), some (vr (49)), some (vi (((ii : Nat) : Int)))] [] (S nw nx g, 78 + gn, c_1) BL post))))) :
    SW G (j + 40) mL_law 1837 [some (vf 0), some (vr (0)), some (vr (49)), some (vi (((ii : Nat) : Int)))] [] (S nw nx g, 78 + gn, c) BL post := by
  refine sw_aload_n (dL_law_25.at 5 rfl) rfl rfl ?_
  refine sw_aload_nf (dL_law_25.at 6 rfl) rfl rfl ?_
  refine sw_iload_n (dL_law_25.at 7 rfl) rfl rfl ?_
  refine sw_iconst (dL_law_25.at 8 rfl) ?_
  refine sw_iadd (dL_law_25.at 9 rfl) ?_
  refine sw_topI (y := ((ii + 1 : Nat) : Int)) (by first | rfl | (congr 1)) ?_
  refine sw_sld (dL_law_25.at 10 rfl) hG hv.1 hv.2.1 ?_
  replace hv := hv.2.2
  refine sw_callV (B' := BL) (As := [vi ((G.2.2 (((ii + 1 : Nat) : Int).toNat)).toInt)]) (mc := 0) (ms := 0) (dL_law_25.at 11 rfl) lk_L_213 (S_lt 0 (by decide)) (S_0 nw nx g) rfl rfl (Nat.le_of_ble_eq_true rfl) rfl hB1 hB2 ?_
  refine c_X8_cosets (s := ((G.2.2 (((ii + 1 : Nat) : Int).toNat)).toInt)) (P := P) (j := j + 38) hv.1 hv.2.1 hv.2.2.1 hv.2.2.2.1 ?_
  replace hv := hv.2.2.2.2
  refine sw_aload_n (dL_law_25.at 12 rfl) rfl rfl ?_
  refine sw_aload_nf (dL_law_25.at 13 rfl) rfl rfl ?_
  refine sw_iload_n (dL_law_25.at 14 rfl) rfl rfl ?_
  refine sw_iconst (dL_law_25.at 15 rfl) ?_
  refine sw_iadd (dL_law_25.at 16 rfl) ?_
  refine sw_topI (y := ((ii + 1 : Nat) : Int)) (by first | rfl | (congr 1)) ?_
  refine sw_sld (dL_law_25.at 17 rfl) hG hv.1 hv.2.1 ?_
  replace hv := hv.2.2
  refine sw_callV (B' := BL) (As := [vi ((G.2.2 (((ii + 1 : Nat) : Int).toNat)).toInt)]) (mc := 0) (ms := 0) (dL_law_25.at 18 rfl) lk_L_216 (S_lt 49 (by decide)) (S_49 nw nx g) rfl rfl (Nat.le_of_ble_eq_true rfl) rfl hB1 hB2 ?_
  refine c_X9_cosets (s := ((G.2.2 (((ii + 1 : Nat) : Int).toNat)).toInt)) (P := P) (j := j + 35) hv.1 hv.2.1 hv.2.2.1 hv.2.2.2.1 (fun c_1 h_1 => ?_)
  replace hv := hv.2.2.2.2 c_1 h_1
  refine sw_icmp_same (tgt := 2308) (dL_law_25.at 19 rfl) (by decide) ?_
  exact hv

theorem cs_cosets {G : GG} {j nw nx gn : Nat} {g : Nat → Sh} {c : Nat → Nat → Int} {post : Option AV → AM → Prop} {BL : BB} {P : GD} {T : PT} {ln : Nat} {bo : Nat → Nat} {n : Nat} {nb : Nat → Nat} {MT : Nat} {MA : Nat} {ii : Nat} (hG : G.2.1 < 2147483648) (hB1 : BL.1 ≤ BL.2.2.1) (hB2 : BL.2.1 ≤ BL.2.2.2) (hii : ii + 6 ≤ G.2.1) (hv : INV c nw nx P T ln bo n nb MT MA) (K : ∀ c2 : Nat → Nat → Int, INV c2 nw nx P T ln bo n nb MT MA → SW G (j + 40) mL_law 2308 [some (vf 0), some (vr (0)), some (vr (49)), some (vi (((ii : Nat) : Int)))] [] (S nw nx g, 78 + gn, c2) BL post) : SW G (j + 40) mL_law 1837 [some (vf 0), some (vr (0)), some (vr (49)), some (vi (((ii : Nat) : Int)))] [] (S nw nx g, 78 + gn, c) BL post := by
  have hv0 := hv
  obtain ⟨hIT, hIP, hIR, hIE, ⟨hwx, hSP, ⟨⟨hV, hC, hDn, hSi⟩, ⟨hOr, hMi, hSp, hBr, hBt⟩, ⟨hLa, hGP, hP0, hHT⟩, hMv⟩, hbo, hbl, hE, hM, hln⟩, ⟨hPR, hCR, hRR⟩, hIM⟩ := hv
  have hIM0 := hIM
  obtain ⟨⟨hMT60, hMA30, hMA0, hMf, hMs⟩, ⟨hM1, hM2, hM3, hM4⟩, hM5, hM6⟩ := hIM
  have hnw : nw = 21 ∨ nw = 35 := by omega
  have hRb := hC.1.1
  have hLn := hC.1.2
  have hLn2 : ∀ s, s < gR P → s + 1 < gN P := hC.1.2
  refine g_law_cosets (P := P) hG hB1 hB2 ?_
  refine ⟨?_, ?_, ⟨?_, ?_, ?_, ?_, ⟨?_, ?_, ⟨?_, ?_, ?_, ?_, fun c_1 h_1 => ?_⟩⟩⟩⟩
  all_goals first | assumption | omega | exact i32rng _ | exact K _ (INV_SC hv0 h_1)

set_option maxHeartbeats 2000000 in
set_option maxRecDepth 20000 in
theorem g_law_coset {G : GG} {j nw nx gn : Nat} {g : Nat → Sh} {c : Nat → Nat → Int} {post : Option AV → AM → Prop} {BL : BB} {P : GD} {ii : Nat} (hG : G.2.1 < 2147483648) (hB1 : BL.1 ≤ BL.2.2.1) (hB2 : BL.2.1 ≤ BL.2.2.2)  (hv : (0 ≤ ((ii + 1 : Nat) : Int)) ∧ (((ii + 1 : Nat) : Int) < (G.2.1 : Int)) ∧ ((0 ≤ ((ii + 2 : Nat) : Int)) ∧ (((ii + 2 : Nat) : Int) < (G.2.1 : Int)) ∧ ((nw = 21 ∨ nw = 35) ∧ (EL c nw P) ∧ (GV P) ∧ (-2147483648 ≤ ((G.2.2 (((ii + 1 : Nat) : Int).toNat)).toInt) ∧ ((G.2.2 (((ii + 1 : Nat) : Int).toNat)).toInt) < 2147483648) ∧ (-2147483648 ≤ ((G.2.2 (((ii + 2 : Nat) : Int).toNat)).toInt) ∧ ((G.2.2 (((ii + 2 : Nat) : Int).toNat)).toInt) < 2147483648) ∧ ((0 ≤ ((ii + 1 : Nat) : Int)) ∧ (((ii + 1 : Nat) : Int) < (G.2.1 : Int)) ∧ ((0 ≤ ((ii + 2 : Nat) : Int)) ∧ (((ii + 2 : Nat) : Int) < (G.2.1 : Int)) ∧ ((ML c P) ∧ (GV P) ∧ (GC P) ∧ (-2147483648 ≤ ((G.2.2 (((ii + 1 : Nat) : Int).toNat)).toInt) ∧ ((G.2.2 (((ii + 1 : Nat) : Int).toNat)).toInt) < 2147483648) ∧ (-2147483648 ≤ ((G.2.2 (((ii + 2 : Nat) : Int).toNat)).toInt) ∧ ((G.2.2 (((ii + 2 : Nat) : Int).toNat)).toInt) < 2147483648) ∧ (∀ c_1 : Nat → Nat → Int, SC c c_1 → SW G (j + 40) mL_law 2308 [some (vf 0), some (vr (0)), some (vr (49)), some (vi (((ii : Nat) : Int)))] [] (S nw nx g, 78 + gn, c_1) BL post))))))) :
    SW G (j + 40) mL_law 1860 [some (vf 0), some (vr (0)), some (vr (49)), some (vi (((ii : Nat) : Int)))] [] (S nw nx g, 78 + gn, c) BL post := by
  refine sw_aload_n (dL_law_25.at 22 rfl) rfl rfl ?_
  refine sw_aload_nf (dL_law_25.at 23 rfl) rfl rfl ?_
  refine sw_iload_n (dL_law_25.at 24 rfl) rfl rfl ?_
  refine sw_iconst (dL_law_25.at 25 rfl) ?_
  refine sw_iadd (dL_law_25.at 26 rfl) ?_
  refine sw_topI (y := ((ii + 1 : Nat) : Int)) (by first | rfl | (congr 1)) ?_
  refine sw_sld (dL_law_25.at 27 rfl) hG hv.1 hv.2.1 ?_
  replace hv := hv.2.2
  refine sw_aload_nf (dL_law_25.at 28 rfl) rfl rfl ?_
  refine sw_iload_n (dL_law_25.at 29 rfl) rfl rfl ?_
  refine sw_iconst (dL_law_25.at 30 rfl) ?_
  refine sw_iadd (dL_law_25.at 31 rfl) ?_
  refine sw_topI (y := ((ii + 2 : Nat) : Int)) (by first | rfl | (congr 1)) ?_
  refine sw_sld (dL_law_25.at 32 rfl) hG hv.1 hv.2.1 ?_
  replace hv := hv.2.2
  refine sw_callV (B' := BL) (As := [vi ((G.2.2 (((ii + 1 : Nat) : Int).toNat)).toInt), vi ((G.2.2 (((ii + 2 : Nat) : Int).toNat)).toInt)]) (mc := 0) (ms := 0) (dL_law_25.at 33 rfl) lk_L_217 (S_lt 0 (by decide)) (S_0 nw nx g) rfl rfl (Nat.le_of_ble_eq_true rfl) rfl hB1 hB2 ?_
  refine c_X8_coset (s := ((G.2.2 (((ii + 1 : Nat) : Int).toNat)).toInt)) (i := ((G.2.2 (((ii + 2 : Nat) : Int).toNat)).toInt)) (P := P) (j := j + 38) hv.1 hv.2.1 hv.2.2.1 hv.2.2.2.1 hv.2.2.2.2.1 ?_
  replace hv := hv.2.2.2.2.2
  refine sw_aload_n (dL_law_25.at 34 rfl) rfl rfl ?_
  refine sw_aload_nf (dL_law_25.at 35 rfl) rfl rfl ?_
  refine sw_iload_n (dL_law_25.at 36 rfl) rfl rfl ?_
  refine sw_iconst (dL_law_25.at 37 rfl) ?_
  refine sw_iadd (dL_law_25.at 38 rfl) ?_
  refine sw_topI (y := ((ii + 1 : Nat) : Int)) (by first | rfl | (congr 1)) ?_
  refine sw_sld (dL_law_25.at 39 rfl) hG hv.1 hv.2.1 ?_
  replace hv := hv.2.2
  refine sw_aload_nf (dL_law_25.at 40 rfl) rfl rfl ?_
  refine sw_iload_n (dL_law_25.at 41 rfl) rfl rfl ?_
  refine sw_iconst (dL_law_25.at 42 rfl) ?_
  refine sw_iadd (dL_law_25.at 43 rfl) ?_
  refine sw_topI (y := ((ii + 2 : Nat) : Int)) (by first | rfl | (congr 1)) ?_
  refine sw_sld (dL_law_25.at 44 rfl) hG hv.1 hv.2.1 ?_
  replace hv := hv.2.2
  refine sw_callV (B' := BL) (As := [vi ((G.2.2 (((ii + 1 : Nat) : Int).toNat)).toInt), vi ((G.2.2 (((ii + 2 : Nat) : Int).toNat)).toInt)]) (mc := 0) (ms := 0) (dL_law_25.at 45 rfl) lk_L_220 (S_lt 49 (by decide)) (S_49 nw nx g) rfl rfl (Nat.le_of_ble_eq_true rfl) rfl hB1 hB2 ?_
  refine c_X9_coset (s := ((G.2.2 (((ii + 1 : Nat) : Int).toNat)).toInt)) (i := ((G.2.2 (((ii + 2 : Nat) : Int).toNat)).toInt)) (P := P) (j := j + 35) hv.1 hv.2.1 hv.2.2.1 hv.2.2.2.1 hv.2.2.2.2.1 (fun c_1 h_1 => ?_)
  replace hv := hv.2.2.2.2.2 c_1 h_1
  refine sw_icmp_same (tgt := 2308) (dL_law_25.at 46 rfl) (by decide) ?_
  exact hv

theorem cs_coset {G : GG} {j nw nx gn : Nat} {g : Nat → Sh} {c : Nat → Nat → Int} {post : Option AV → AM → Prop} {BL : BB} {P : GD} {T : PT} {ln : Nat} {bo : Nat → Nat} {n : Nat} {nb : Nat → Nat} {MT : Nat} {MA : Nat} {ii : Nat} (hG : G.2.1 < 2147483648) (hB1 : BL.1 ≤ BL.2.2.1) (hB2 : BL.2.1 ≤ BL.2.2.2) (hii : ii + 6 ≤ G.2.1) (hv : INV c nw nx P T ln bo n nb MT MA) (K : ∀ c2 : Nat → Nat → Int, INV c2 nw nx P T ln bo n nb MT MA → SW G (j + 40) mL_law 2308 [some (vf 0), some (vr (0)), some (vr (49)), some (vi (((ii : Nat) : Int)))] [] (S nw nx g, 78 + gn, c2) BL post) : SW G (j + 40) mL_law 1860 [some (vf 0), some (vr (0)), some (vr (49)), some (vi (((ii : Nat) : Int)))] [] (S nw nx g, 78 + gn, c) BL post := by
  have hv0 := hv
  obtain ⟨hIT, hIP, hIR, hIE, ⟨hwx, hSP, ⟨⟨hV, hC, hDn, hSi⟩, ⟨hOr, hMi, hSp, hBr, hBt⟩, ⟨hLa, hGP, hP0, hHT⟩, hMv⟩, hbo, hbl, hE, hM, hln⟩, ⟨hPR, hCR, hRR⟩, hIM⟩ := hv
  have hIM0 := hIM
  obtain ⟨⟨hMT60, hMA30, hMA0, hMf, hMs⟩, ⟨hM1, hM2, hM3, hM4⟩, hM5, hM6⟩ := hIM
  have hnw : nw = 21 ∨ nw = 35 := by omega
  have hRb := hC.1.1
  have hLn := hC.1.2
  have hLn2 : ∀ s, s < gR P → s + 1 < gN P := hC.1.2
  refine g_law_coset (P := P) hG hB1 hB2 ?_
  refine ⟨?_, ?_, ⟨?_, ?_, ⟨?_, ?_, ?_, ?_, ?_, ⟨?_, ?_, ⟨?_, ?_, ⟨?_, ?_, ?_, ?_, ?_, fun c_1 h_1 => ?_⟩⟩⟩⟩⟩⟩
  all_goals first | assumption | omega | exact i32rng _ | exact K _ (INV_SC hv0 h_1)

set_option maxHeartbeats 2000000 in
set_option maxRecDepth 20000 in
theorem g_law_pBy {G : GG} {j nw nx gn : Nat} {g : Nat → Sh} {c : Nat → Nat → Int} {post : Option AV → AM → Prop} {BL : BB} {P : GD} {T : PT} {ii : Nat} (hG : G.2.1 < 2147483648) (hB1 : BL.1 ≤ BL.2.2.1) (hB2 : BL.2.1 ≤ BL.2.2.2)  (hv : (0 ≤ ((ii + 1 : Nat) : Int)) ∧ (((ii + 1 : Nat) : Int) < (G.2.1 : Int)) ∧ ((0 ≤ ((ii + 2 : Nat) : Int)) ∧ (((ii + 2 : Nat) : Int) < (G.2.1 : Int)) ∧ ((0 ≤ ((ii + 3 : Nat) : Int)) ∧ (((ii + 3 : Nat) : Int) < (G.2.1 : Int)) ∧ ((0 ≤ ((ii + 4 : Nat) : Int)) ∧ (((ii + 4 : Nat) : Int) < (G.2.1 : Int)) ∧ ((nw = 21 ∨ nw = 35) ∧ (EL c nw P) ∧ (GV P) ∧ (HT P T) ∧ (PR P T c) ∧ (hRb P) ∧ (-2147483648 ≤ ((G.2.2 (((ii + 1 : Nat) : Int).toNat)).toInt) ∧ ((G.2.2 (((ii + 1 : Nat) : Int).toNat)).toInt) < 2147483648) ∧ (-2147483648 ≤ ((G.2.2 (((ii + 2 : Nat) : Int).toNat)).toInt) ∧ ((G.2.2 (((ii + 2 : Nat) : Int).toNat)).toInt) < 2147483648) ∧ (-2147483648 ≤ ((G.2.2 (((ii + 3 : Nat) : Int).toNat)).toInt) ∧ ((G.2.2 (((ii + 3 : Nat) : Int).toNat)).toInt) < 2147483648) ∧ (-2147483648 ≤ ((G.2.2 (((ii + 4 : Nat) : Int).toNat)).toInt) ∧ ((G.2.2 (((ii + 4 : Nat) : Int).toNat)).toInt) < 2147483648) ∧ (∀ c_1 : Nat → Nat → Int, ((∀ a, a ≠ 5 → a ≠ 6 → c_1 a = c a) ∧ PR P T c_1) → (0 ≤ ((ii + 1 : Nat) : Int)) ∧ (((ii + 1 : Nat) : Int) < (G.2.1 : Int)) ∧ ((0 ≤ ((ii + 2 : Nat) : Int)) ∧ (((ii + 2 : Nat) : Int) < (G.2.1 : Int)) ∧ ((0 ≤ ((ii + 3 : Nat) : Int)) ∧ (((ii + 3 : Nat) : Int) < (G.2.1 : Int)) ∧ ((0 ≤ ((ii + 4 : Nat) : Int)) ∧ (((ii + 4 : Nat) : Int) < (G.2.1 : Int)) ∧ ((ML c_1 P) ∧ (GV P) ∧ (GC P) ∧ (GP P T) ∧ (RR P T c_1) ∧ (-2147483648 ≤ ((G.2.2 (((ii + 1 : Nat) : Int).toNat)).toInt) ∧ ((G.2.2 (((ii + 1 : Nat) : Int).toNat)).toInt) < 2147483648) ∧ (-2147483648 ≤ ((G.2.2 (((ii + 2 : Nat) : Int).toNat)).toInt) ∧ ((G.2.2 (((ii + 2 : Nat) : Int).toNat)).toInt) < 2147483648) ∧ (-2147483648 ≤ ((G.2.2 (((ii + 3 : Nat) : Int).toNat)).toInt) ∧ ((G.2.2 (((ii + 3 : Nat) : Int).toNat)).toInt) < 2147483648) ∧ (-2147483648 ≤ ((G.2.2 (((ii + 4 : Nat) : Int).toNat)).toInt) ∧ ((G.2.2 (((ii + 4 : Nat) : Int).toNat)).toInt) < 2147483648) ∧ (∀ c_2 : Nat → Nat → Int, (SD c_1 c_2 ∧ RR P T c_2) → SW G (j + 40) mL_law 2308 [some (vf 0), some (vr (0)), some (vr (49)), some (vi (((ii : Nat) : Int)))] [] (S nw nx g, 78 + gn, c_2) BL post))))))))))) :
    SW G (j + 40) mL_law 1893 [some (vf 0), some (vr (0)), some (vr (49)), some (vi (((ii : Nat) : Int)))] [] (S nw nx g, 78 + gn, c) BL post := by
  refine sw_aload_n (dL_law_25.at 49 rfl) rfl rfl ?_
  refine sw_aload_nf (dL_law_26.at 0 rfl) rfl rfl ?_
  refine sw_iload_n (dL_law_26.at 1 rfl) rfl rfl ?_
  refine sw_iconst (dL_law_26.at 2 rfl) ?_
  refine sw_iadd (dL_law_26.at 3 rfl) ?_
  refine sw_topI (y := ((ii + 1 : Nat) : Int)) (by first | rfl | (congr 1)) ?_
  refine sw_sld (dL_law_26.at 4 rfl) hG hv.1 hv.2.1 ?_
  replace hv := hv.2.2
  refine sw_aload_nf (dL_law_26.at 5 rfl) rfl rfl ?_
  refine sw_iload_n (dL_law_26.at 6 rfl) rfl rfl ?_
  refine sw_iconst (dL_law_26.at 7 rfl) ?_
  refine sw_iadd (dL_law_26.at 8 rfl) ?_
  refine sw_topI (y := ((ii + 2 : Nat) : Int)) (by first | rfl | (congr 1)) ?_
  refine sw_sld (dL_law_26.at 9 rfl) hG hv.1 hv.2.1 ?_
  replace hv := hv.2.2
  refine sw_aload_nf (dL_law_26.at 10 rfl) rfl rfl ?_
  refine sw_iload_n (dL_law_26.at 11 rfl) rfl rfl ?_
  refine sw_iconst (dL_law_26.at 12 rfl) ?_
  refine sw_iadd (dL_law_26.at 13 rfl) ?_
  refine sw_topI (y := ((ii + 3 : Nat) : Int)) (by first | rfl | (congr 1)) ?_
  refine sw_sld (dL_law_26.at 14 rfl) hG hv.1 hv.2.1 ?_
  replace hv := hv.2.2
  refine sw_aload_nf (dL_law_26.at 15 rfl) rfl rfl ?_
  refine sw_iload_n (dL_law_26.at 16 rfl) rfl rfl ?_
  refine sw_iconst (dL_law_26.at 17 rfl) ?_
  refine sw_iadd (dL_law_26.at 18 rfl) ?_
  refine sw_topI (y := ((ii + 4 : Nat) : Int)) (by first | rfl | (congr 1)) ?_
  refine sw_sld (dL_law_26.at 19 rfl) hG hv.1 hv.2.1 ?_
  replace hv := hv.2.2
  refine sw_callV (B' := BL) (As := [vi ((G.2.2 (((ii + 1 : Nat) : Int).toNat)).toInt), vi ((G.2.2 (((ii + 2 : Nat) : Int).toNat)).toInt), vi ((G.2.2 (((ii + 3 : Nat) : Int).toNat)).toInt), vi ((G.2.2 (((ii + 4 : Nat) : Int).toNat)).toInt)]) (mc := 0) (ms := 0) (dL_law_26.at 20 rfl) lk_L_221 (S_lt 0 (by decide)) (S_0 nw nx g) rfl rfl (Nat.le_of_ble_eq_true rfl) rfl hB1 hB2 ?_
  refine c_X8_pBy (s := ((G.2.2 (((ii + 1 : Nat) : Int).toNat)).toInt)) (x := ((G.2.2 (((ii + 2 : Nat) : Int).toNat)).toInt)) (y := ((G.2.2 (((ii + 3 : Nat) : Int).toNat)).toInt)) (k := ((G.2.2 (((ii + 4 : Nat) : Int).toNat)).toInt)) (P := P) (T := T) (j := j + 33) hv.1 hv.2.1 hv.2.2.1 hv.2.2.2.1 hv.2.2.2.2.1 hv.2.2.2.2.2.1 hv.2.2.2.2.2.2.1 hv.2.2.2.2.2.2.2.1 hv.2.2.2.2.2.2.2.2.1 hv.2.2.2.2.2.2.2.2.2.1 (fun c_1 h_1 => ?_)
  replace hv := hv.2.2.2.2.2.2.2.2.2.2 c_1 h_1
  refine sw_aload_n (dL_law_26.at 21 rfl) rfl rfl ?_
  refine sw_aload_nf (dL_law_26.at 22 rfl) rfl rfl ?_
  refine sw_iload_n (dL_law_26.at 23 rfl) rfl rfl ?_
  refine sw_iconst (dL_law_26.at 24 rfl) ?_
  refine sw_iadd (dL_law_26.at 25 rfl) ?_
  refine sw_topI (y := ((ii + 1 : Nat) : Int)) (by first | rfl | (congr 1)) ?_
  refine sw_sld (dL_law_26.at 26 rfl) hG hv.1 hv.2.1 ?_
  replace hv := hv.2.2
  refine sw_aload_nf (dL_law_26.at 27 rfl) rfl rfl ?_
  refine sw_iload_n (dL_law_26.at 28 rfl) rfl rfl ?_
  refine sw_iconst (dL_law_26.at 29 rfl) ?_
  refine sw_iadd (dL_law_26.at 30 rfl) ?_
  refine sw_topI (y := ((ii + 2 : Nat) : Int)) (by first | rfl | (congr 1)) ?_
  refine sw_sld (dL_law_26.at 31 rfl) hG hv.1 hv.2.1 ?_
  replace hv := hv.2.2
  refine sw_aload_nf (dL_law_26.at 32 rfl) rfl rfl ?_
  refine sw_iload_n (dL_law_26.at 33 rfl) rfl rfl ?_
  refine sw_iconst (dL_law_26.at 34 rfl) ?_
  refine sw_iadd (dL_law_26.at 35 rfl) ?_
  refine sw_topI (y := ((ii + 3 : Nat) : Int)) (by first | rfl | (congr 1)) ?_
  refine sw_sld (dL_law_26.at 36 rfl) hG hv.1 hv.2.1 ?_
  replace hv := hv.2.2
  refine sw_aload_nf (dL_law_26.at 37 rfl) rfl rfl ?_
  refine sw_iload_n (dL_law_26.at 38 rfl) rfl rfl ?_
  refine sw_iconst (dL_law_26.at 39 rfl) ?_
  refine sw_iadd (dL_law_26.at 40 rfl) ?_
  refine sw_topI (y := ((ii + 4 : Nat) : Int)) (by first | rfl | (congr 1)) ?_
  refine sw_sld (dL_law_26.at 41 rfl) hG hv.1 hv.2.1 ?_
  replace hv := hv.2.2
  refine sw_callV (B' := BL) (As := [vi ((G.2.2 (((ii + 1 : Nat) : Int).toNat)).toInt), vi ((G.2.2 (((ii + 2 : Nat) : Int).toNat)).toInt), vi ((G.2.2 (((ii + 3 : Nat) : Int).toNat)).toInt), vi ((G.2.2 (((ii + 4 : Nat) : Int).toNat)).toInt)]) (mc := 0) (ms := 0) (dL_law_26.at 42 rfl) lk_L_224 (S_lt 49 (by decide)) (S_49 nw nx g) rfl rfl (Nat.le_of_ble_eq_true rfl) rfl hB1 hB2 ?_
  refine c_X9_pBy (s := ((G.2.2 (((ii + 1 : Nat) : Int).toNat)).toInt)) (x := ((G.2.2 (((ii + 2 : Nat) : Int).toNat)).toInt)) (y := ((G.2.2 (((ii + 3 : Nat) : Int).toNat)).toInt)) (k := ((G.2.2 (((ii + 4 : Nat) : Int).toNat)).toInt)) (P := P) (T := T) (j := j + 34) hv.1 hv.2.1 hv.2.2.1 hv.2.2.2.1 hv.2.2.2.2.1 hv.2.2.2.2.2.1 hv.2.2.2.2.2.2.1 hv.2.2.2.2.2.2.2.1 hv.2.2.2.2.2.2.2.2.1 (fun c_2 h_2 => ?_)
  replace hv := hv.2.2.2.2.2.2.2.2.2 c_2 h_2
  refine sw_icmp_same (tgt := 2308) (dL_law_26.at 43 rfl) (by decide) ?_
  exact hv

theorem cs_pBy {G : GG} {j nw nx gn : Nat} {g : Nat → Sh} {c : Nat → Nat → Int} {post : Option AV → AM → Prop} {BL : BB} {P : GD} {T : PT} {ln : Nat} {bo : Nat → Nat} {n : Nat} {nb : Nat → Nat} {MT : Nat} {MA : Nat} {ii : Nat} (hG : G.2.1 < 2147483648) (hB1 : BL.1 ≤ BL.2.2.1) (hB2 : BL.2.1 ≤ BL.2.2.2) (hii : ii + 6 ≤ G.2.1) (hv : INV c nw nx P T ln bo n nb MT MA) (K : ∀ c2 : Nat → Nat → Int, INV c2 nw nx P T ln bo n nb MT MA → SW G (j + 40) mL_law 2308 [some (vf 0), some (vr (0)), some (vr (49)), some (vi (((ii : Nat) : Int)))] [] (S nw nx g, 78 + gn, c2) BL post) : SW G (j + 40) mL_law 1893 [some (vf 0), some (vr (0)), some (vr (49)), some (vi (((ii : Nat) : Int)))] [] (S nw nx g, 78 + gn, c) BL post := by
  have hv0 := hv
  obtain ⟨hIT, hIP, hIR, hIE, ⟨hwx, hSP, ⟨⟨hV, hC, hDn, hSi⟩, ⟨hOr, hMi, hSp, hBr, hBt⟩, ⟨hLa, hGP, hP0, hHT⟩, hMv⟩, hbo, hbl, hE, hM, hln⟩, ⟨hPR, hCR, hRR⟩, hIM⟩ := hv
  have hIM0 := hIM
  obtain ⟨⟨hMT60, hMA30, hMA0, hMf, hMs⟩, ⟨hM1, hM2, hM3, hM4⟩, hM5, hM6⟩ := hIM
  have hnw : nw = 21 ∨ nw = 35 := by omega
  have hRb := hC.1.1
  have hLn := hC.1.2
  have hLn2 : ∀ s, s < gR P → s + 1 < gN P := hC.1.2
  refine g_law_pBy (P := P) (T := T) hG hB1 hB2 ?_
  refine ⟨?_, ?_, ⟨?_, ?_, ⟨?_, ?_, ⟨?_, ?_, ⟨?_, ?_, ?_, ?_, ?_, ?_, ?_, ?_, ?_, ?_, fun c_1 h_1 => ⟨?_, ?_, ⟨?_, ?_, ⟨?_, ?_, ⟨?_, ?_, ⟨?_, ?_, ?_, ?_, ?_, ?_, ?_, ?_, ?_, fun c_2 h_2 => ?_⟩⟩⟩⟩⟩⟩⟩⟩⟩⟩
  all_goals first | assumption | omega | exact i32rng _ | exact ML_row hM (fun a ha hb => h_1.1 a (by omega) (by omega)) | exact RR_row hRR (fun a ha hb => h_1.1 a (by omega) (by omega)) | exact K _ (INV_SD (INV_CK hv0 (fun a ha hb => h_1.1 a (by omega) (by omega)) h_1.2 (CR_same hCR (h_1.1 7 (by omega) (by omega)) (h_1.1 8 (by omega) (by omega)))) h_2.1 h_2.2)

set_option maxHeartbeats 2000000 in
set_option maxRecDepth 20000 in
theorem g_law_weakMany {G : GG} {j nw nx gn : Nat} {g : Nat → Sh} {c : Nat → Nat → Int} {post : Option AV → AM → Prop} {BL : BB} {P : GD} {ii : Nat} (hG : G.2.1 < 2147483648) (hB1 : BL.1 ≤ BL.2.2.1) (hB2 : BL.2.1 ≤ BL.2.2.2)  (hv : (0 ≤ ((ii + 1 : Nat) : Int)) ∧ (((ii + 1 : Nat) : Int) < (G.2.1 : Int)) ∧ ((0 ≤ ((ii + 2 : Nat) : Int)) ∧ (((ii + 2 : Nat) : Int) < (G.2.1 : Int)) ∧ ((nw = 21 ∨ nw = 35) ∧ (EL c nw P) ∧ (GV P) ∧ (-2147483648 ≤ ((G.2.2 (((ii + 1 : Nat) : Int).toNat)).toInt) ∧ ((G.2.2 (((ii + 1 : Nat) : Int).toNat)).toInt) < 2147483648) ∧ (-2147483648 ≤ ((G.2.2 (((ii + 2 : Nat) : Int).toNat)).toInt) ∧ ((G.2.2 (((ii + 2 : Nat) : Int).toNat)).toInt) < 2147483648) ∧ ((0 ≤ ((ii + 1 : Nat) : Int)) ∧ (((ii + 1 : Nat) : Int) < (G.2.1 : Int)) ∧ ((0 ≤ ((ii + 2 : Nat) : Int)) ∧ (((ii + 2 : Nat) : Int) < (G.2.1 : Int)) ∧ ((ML c P) ∧ (GV P) ∧ (GC P) ∧ (-2147483648 ≤ ((G.2.2 (((ii + 1 : Nat) : Int).toNat)).toInt) ∧ ((G.2.2 (((ii + 1 : Nat) : Int).toNat)).toInt) < 2147483648) ∧ (-2147483648 ≤ ((G.2.2 (((ii + 2 : Nat) : Int).toNat)).toInt) ∧ ((G.2.2 (((ii + 2 : Nat) : Int).toNat)).toInt) < 2147483648) ∧ (∀ c_1 : Nat → Nat → Int, SC c c_1 → SW G (j + 40) mL_law 2308 [some (vf 0), some (vr (0)), some (vr (49)), some (vi (((ii : Nat) : Int)))] [] (S nw nx g, 78 + gn, c_1) BL post))))))) :
    SW G (j + 40) mL_law 1946 [some (vf 0), some (vr (0)), some (vr (49)), some (vi (((ii : Nat) : Int)))] [] (S nw nx g, 78 + gn, c) BL post := by
  refine sw_aload_n (dL_law_26.at 46 rfl) rfl rfl ?_
  refine sw_aload_nf (dL_law_26.at 47 rfl) rfl rfl ?_
  refine sw_iload_n (dL_law_26.at 48 rfl) rfl rfl ?_
  refine sw_iconst (dL_law_26.at 49 rfl) ?_
  refine sw_iadd (dL_law_27.at 0 rfl) ?_
  refine sw_topI (y := ((ii + 1 : Nat) : Int)) (by first | rfl | (congr 1)) ?_
  refine sw_sld (dL_law_27.at 1 rfl) hG hv.1 hv.2.1 ?_
  replace hv := hv.2.2
  refine sw_aload_nf (dL_law_27.at 2 rfl) rfl rfl ?_
  refine sw_iload_n (dL_law_27.at 3 rfl) rfl rfl ?_
  refine sw_iconst (dL_law_27.at 4 rfl) ?_
  refine sw_iadd (dL_law_27.at 5 rfl) ?_
  refine sw_topI (y := ((ii + 2 : Nat) : Int)) (by first | rfl | (congr 1)) ?_
  refine sw_sld (dL_law_27.at 6 rfl) hG hv.1 hv.2.1 ?_
  replace hv := hv.2.2
  refine sw_callV (B' := BL) (As := [vi ((G.2.2 (((ii + 1 : Nat) : Int).toNat)).toInt), vi ((G.2.2 (((ii + 2 : Nat) : Int).toNat)).toInt)]) (mc := 0) (ms := 0) (dL_law_27.at 7 rfl) lk_L_225 (S_lt 0 (by decide)) (S_0 nw nx g) rfl rfl (Nat.le_of_ble_eq_true rfl) rfl hB1 hB2 ?_
  refine c_X8_weakMany (x := ((G.2.2 (((ii + 1 : Nat) : Int).toNat)).toInt)) (sd := ((G.2.2 (((ii + 2 : Nat) : Int).toNat)).toInt)) (P := P) (j := j + 37) hv.1 hv.2.1 hv.2.2.1 hv.2.2.2.1 hv.2.2.2.2.1 ?_
  replace hv := hv.2.2.2.2.2
  refine sw_aload_n (dL_law_27.at 8 rfl) rfl rfl ?_
  refine sw_aload_nf (dL_law_27.at 9 rfl) rfl rfl ?_
  refine sw_iload_n (dL_law_27.at 10 rfl) rfl rfl ?_
  refine sw_iconst (dL_law_27.at 11 rfl) ?_
  refine sw_iadd (dL_law_27.at 12 rfl) ?_
  refine sw_topI (y := ((ii + 1 : Nat) : Int)) (by first | rfl | (congr 1)) ?_
  refine sw_sld (dL_law_27.at 13 rfl) hG hv.1 hv.2.1 ?_
  replace hv := hv.2.2
  refine sw_aload_nf (dL_law_27.at 14 rfl) rfl rfl ?_
  refine sw_iload_n (dL_law_27.at 15 rfl) rfl rfl ?_
  refine sw_iconst (dL_law_27.at 16 rfl) ?_
  refine sw_iadd (dL_law_27.at 17 rfl) ?_
  refine sw_topI (y := ((ii + 2 : Nat) : Int)) (by first | rfl | (congr 1)) ?_
  refine sw_sld (dL_law_27.at 18 rfl) hG hv.1 hv.2.1 ?_
  replace hv := hv.2.2
  refine sw_callV (B' := BL) (As := [vi ((G.2.2 (((ii + 1 : Nat) : Int).toNat)).toInt), vi ((G.2.2 (((ii + 2 : Nat) : Int).toNat)).toInt)]) (mc := 0) (ms := 0) (dL_law_27.at 19 rfl) lk_L_228 (S_lt 49 (by decide)) (S_49 nw nx g) rfl rfl (Nat.le_of_ble_eq_true rfl) rfl hB1 hB2 ?_
  refine c_X9_weakMany (x := ((G.2.2 (((ii + 1 : Nat) : Int).toNat)).toInt)) (sd := ((G.2.2 (((ii + 2 : Nat) : Int).toNat)).toInt)) (P := P) (j := j + 36) hv.1 hv.2.1 hv.2.2.1 hv.2.2.2.1 hv.2.2.2.2.1 (fun c_1 h_1 => ?_)
  replace hv := hv.2.2.2.2.2 c_1 h_1
  refine sw_icmp_same (tgt := 2308) (dL_law_27.at 20 rfl) (by decide) ?_
  exact hv

theorem cs_weakMany {G : GG} {j nw nx gn : Nat} {g : Nat → Sh} {c : Nat → Nat → Int} {post : Option AV → AM → Prop} {BL : BB} {P : GD} {T : PT} {ln : Nat} {bo : Nat → Nat} {n : Nat} {nb : Nat → Nat} {MT : Nat} {MA : Nat} {ii : Nat} (hG : G.2.1 < 2147483648) (hB1 : BL.1 ≤ BL.2.2.1) (hB2 : BL.2.1 ≤ BL.2.2.2) (hii : ii + 6 ≤ G.2.1) (hv : INV c nw nx P T ln bo n nb MT MA) (K : ∀ c2 : Nat → Nat → Int, INV c2 nw nx P T ln bo n nb MT MA → SW G (j + 40) mL_law 2308 [some (vf 0), some (vr (0)), some (vr (49)), some (vi (((ii : Nat) : Int)))] [] (S nw nx g, 78 + gn, c2) BL post) : SW G (j + 40) mL_law 1946 [some (vf 0), some (vr (0)), some (vr (49)), some (vi (((ii : Nat) : Int)))] [] (S nw nx g, 78 + gn, c) BL post := by
  have hv0 := hv
  obtain ⟨hIT, hIP, hIR, hIE, ⟨hwx, hSP, ⟨⟨hV, hC, hDn, hSi⟩, ⟨hOr, hMi, hSp, hBr, hBt⟩, ⟨hLa, hGP, hP0, hHT⟩, hMv⟩, hbo, hbl, hE, hM, hln⟩, ⟨hPR, hCR, hRR⟩, hIM⟩ := hv
  have hIM0 := hIM
  obtain ⟨⟨hMT60, hMA30, hMA0, hMf, hMs⟩, ⟨hM1, hM2, hM3, hM4⟩, hM5, hM6⟩ := hIM
  have hnw : nw = 21 ∨ nw = 35 := by omega
  have hRb := hC.1.1
  have hLn := hC.1.2
  have hLn2 : ∀ s, s < gR P → s + 1 < gN P := hC.1.2
  refine g_law_weakMany (P := P) hG hB1 hB2 ?_
  refine ⟨?_, ?_, ⟨?_, ?_, ⟨?_, ?_, ?_, ?_, ?_, ⟨?_, ?_, ⟨?_, ?_, ⟨?_, ?_, ?_, ?_, ?_, fun c_1 h_1 => ?_⟩⟩⟩⟩⟩⟩
  all_goals first | assumption | omega | exact i32rng _ | exact K _ (INV_SC hv0 h_1)

set_option maxHeartbeats 2000000 in
set_option maxRecDepth 20000 in
theorem g_law_paths {G : GG} {j nw nx gn : Nat} {g : Nat → Sh} {c : Nat → Nat → Int} {post : Option AV → AM → Prop} {BL : BB} {P : GD} {ii : Nat} (hG : G.2.1 < 2147483648) (hB1 : BL.1 ≤ BL.2.2.1) (hB2 : BL.2.1 ≤ BL.2.2.2)  (hv : (0 ≤ ((ii + 1 : Nat) : Int)) ∧ (((ii + 1 : Nat) : Int) < (G.2.1 : Int)) ∧ ((0 ≤ ((ii + 2 : Nat) : Int)) ∧ (((ii + 2 : Nat) : Int) < (G.2.1 : Int)) ∧ ((0 ≤ ((ii + 3 : Nat) : Int)) ∧ (((ii + 3 : Nat) : Int) < (G.2.1 : Int)) ∧ ((nw = 21 ∨ nw = 35) ∧ (EL c nw P) ∧ (GV P) ∧ (-2147483648 ≤ ((G.2.2 (((ii + 1 : Nat) : Int).toNat)).toInt) ∧ ((G.2.2 (((ii + 1 : Nat) : Int).toNat)).toInt) < 2147483648) ∧ (-2147483648 ≤ ((G.2.2 (((ii + 2 : Nat) : Int).toNat)).toInt) ∧ ((G.2.2 (((ii + 2 : Nat) : Int).toNat)).toInt) < 2147483648) ∧ (-2147483648 ≤ ((G.2.2 (((ii + 3 : Nat) : Int).toNat)).toInt) ∧ ((G.2.2 (((ii + 3 : Nat) : Int).toNat)).toInt) < 2147483648) ∧ (∀ c_1 : Nat → Nat → Int, (∀ a, a ≠ 20 → c_1 a = c a) → (0 ≤ ((ii + 1 : Nat) : Int)) ∧ (((ii + 1 : Nat) : Int) < (G.2.1 : Int)) ∧ ((0 ≤ ((ii + 2 : Nat) : Int)) ∧ (((ii + 2 : Nat) : Int) < (G.2.1 : Int)) ∧ ((0 ≤ ((ii + 3 : Nat) : Int)) ∧ (((ii + 3 : Nat) : Int) < (G.2.1 : Int)) ∧ ((ML c_1 P) ∧ (GV P) ∧ (GC P) ∧ (hMi P) ∧ (hBr P) ∧ (-2147483648 ≤ ((G.2.2 (((ii + 1 : Nat) : Int).toNat)).toInt) ∧ ((G.2.2 (((ii + 1 : Nat) : Int).toNat)).toInt) < 2147483648) ∧ (-2147483648 ≤ ((G.2.2 (((ii + 2 : Nat) : Int).toNat)).toInt) ∧ ((G.2.2 (((ii + 2 : Nat) : Int).toNat)).toInt) < 2147483648) ∧ (-2147483648 ≤ ((G.2.2 (((ii + 3 : Nat) : Int).toNat)).toInt) ∧ ((G.2.2 (((ii + 3 : Nat) : Int).toNat)).toInt) < 2147483648) ∧ (∀ c_2 : Nat → Nat → Int, SC c_1 c_2 → SW G (j + 40) mL_law 2308 [some (vf 0), some (vr (0)), some (vr (49)), some (vi (((ii : Nat) : Int)))] [] (S nw nx g, 78 + gn, c_2) BL post))))))))) :
    SW G (j + 40) mL_law 1979 [some (vf 0), some (vr (0)), some (vr (49)), some (vi (((ii : Nat) : Int)))] [] (S nw nx g, 78 + gn, c) BL post := by
  refine sw_aload_n (dL_law_27.at 23 rfl) rfl rfl ?_
  refine sw_aload_nf (dL_law_27.at 24 rfl) rfl rfl ?_
  refine sw_iload_n (dL_law_27.at 25 rfl) rfl rfl ?_
  refine sw_iconst (dL_law_27.at 26 rfl) ?_
  refine sw_iadd (dL_law_27.at 27 rfl) ?_
  refine sw_topI (y := ((ii + 1 : Nat) : Int)) (by first | rfl | (congr 1)) ?_
  refine sw_sld (dL_law_27.at 28 rfl) hG hv.1 hv.2.1 ?_
  replace hv := hv.2.2
  refine sw_aload_nf (dL_law_27.at 29 rfl) rfl rfl ?_
  refine sw_iload_n (dL_law_27.at 30 rfl) rfl rfl ?_
  refine sw_iconst (dL_law_27.at 31 rfl) ?_
  refine sw_iadd (dL_law_27.at 32 rfl) ?_
  refine sw_topI (y := ((ii + 2 : Nat) : Int)) (by first | rfl | (congr 1)) ?_
  refine sw_sld (dL_law_27.at 33 rfl) hG hv.1 hv.2.1 ?_
  replace hv := hv.2.2
  refine sw_aload_nf (dL_law_27.at 34 rfl) rfl rfl ?_
  refine sw_iload_n (dL_law_27.at 35 rfl) rfl rfl ?_
  refine sw_iconst (dL_law_27.at 36 rfl) ?_
  refine sw_iadd (dL_law_27.at 37 rfl) ?_
  refine sw_topI (y := ((ii + 3 : Nat) : Int)) (by first | rfl | (congr 1)) ?_
  refine sw_sld (dL_law_27.at 38 rfl) hG hv.1 hv.2.1 ?_
  replace hv := hv.2.2
  refine sw_callV (B' := BL) (As := [vi ((G.2.2 (((ii + 1 : Nat) : Int).toNat)).toInt), vi ((G.2.2 (((ii + 2 : Nat) : Int).toNat)).toInt), vi ((G.2.2 (((ii + 3 : Nat) : Int).toNat)).toInt)]) (mc := 0) (ms := 0) (dL_law_27.at 39 rfl) lk_L_229 (S_lt 0 (by decide)) (S_0 nw nx g) rfl rfl (Nat.le_of_ble_eq_true rfl) rfl hB1 hB2 ?_
  refine c_X8_paths (x := ((G.2.2 (((ii + 1 : Nat) : Int).toNat)).toInt)) (y := ((G.2.2 (((ii + 2 : Nat) : Int).toNat)).toInt)) (u := ((G.2.2 (((ii + 3 : Nat) : Int).toNat)).toInt)) (P := P) (j := j + 37) hv.1 hv.2.1 hv.2.2.1 hv.2.2.2.1 hv.2.2.2.2.1 hv.2.2.2.2.2.1 (fun c_1 h_1 => ?_)
  replace hv := hv.2.2.2.2.2.2 c_1 h_1
  refine sw_aload_n (dL_law_27.at 40 rfl) rfl rfl ?_
  refine sw_aload_nf (dL_law_27.at 41 rfl) rfl rfl ?_
  refine sw_iload_n (dL_law_27.at 42 rfl) rfl rfl ?_
  refine sw_iconst (dL_law_27.at 43 rfl) ?_
  refine sw_iadd (dL_law_27.at 44 rfl) ?_
  refine sw_topI (y := ((ii + 1 : Nat) : Int)) (by first | rfl | (congr 1)) ?_
  refine sw_sld (dL_law_27.at 45 rfl) hG hv.1 hv.2.1 ?_
  replace hv := hv.2.2
  refine sw_aload_nf (dL_law_27.at 46 rfl) rfl rfl ?_
  refine sw_iload_n (dL_law_27.at 47 rfl) rfl rfl ?_
  refine sw_iconst (dL_law_27.at 48 rfl) ?_
  refine sw_iadd (dL_law_27.at 49 rfl) ?_
  refine sw_topI (y := ((ii + 2 : Nat) : Int)) (by first | rfl | (congr 1)) ?_
  refine sw_sld (dL_law_28.at 0 rfl) hG hv.1 hv.2.1 ?_
  replace hv := hv.2.2
  refine sw_aload_nf (dL_law_28.at 1 rfl) rfl rfl ?_
  refine sw_iload_n (dL_law_28.at 2 rfl) rfl rfl ?_
  refine sw_iconst (dL_law_28.at 3 rfl) ?_
  refine sw_iadd (dL_law_28.at 4 rfl) ?_
  refine sw_topI (y := ((ii + 3 : Nat) : Int)) (by first | rfl | (congr 1)) ?_
  refine sw_sld (dL_law_28.at 5 rfl) hG hv.1 hv.2.1 ?_
  replace hv := hv.2.2
  refine sw_callV (B' := BL) (As := [vi ((G.2.2 (((ii + 1 : Nat) : Int).toNat)).toInt), vi ((G.2.2 (((ii + 2 : Nat) : Int).toNat)).toInt), vi ((G.2.2 (((ii + 3 : Nat) : Int).toNat)).toInt)]) (mc := 0) (ms := 0) (dL_law_28.at 6 rfl) lk_L_233 (S_lt 49 (by decide)) (S_49 nw nx g) rfl rfl (Nat.le_of_ble_eq_true rfl) rfl hB1 hB2 ?_
  refine c_X9_paths (x := ((G.2.2 (((ii + 1 : Nat) : Int).toNat)).toInt)) (y := ((G.2.2 (((ii + 2 : Nat) : Int).toNat)).toInt)) (u := ((G.2.2 (((ii + 3 : Nat) : Int).toNat)).toInt)) (P := P) (j := j + 37) hv.1 hv.2.1 hv.2.2.1 hv.2.2.2.1 hv.2.2.2.2.1 hv.2.2.2.2.2.1 hv.2.2.2.2.2.2.1 hv.2.2.2.2.2.2.2.1 (fun c_2 h_2 => ?_)
  replace hv := hv.2.2.2.2.2.2.2.2 c_2 h_2
  refine sw_lcmp_same (tgt := 2308) (dL_law_28.at 7 rfl) (dL_law_28.at 8 rfl) (by decide) ?_
  exact hv

theorem cs_paths {G : GG} {j nw nx gn : Nat} {g : Nat → Sh} {c : Nat → Nat → Int} {post : Option AV → AM → Prop} {BL : BB} {P : GD} {T : PT} {ln : Nat} {bo : Nat → Nat} {n : Nat} {nb : Nat → Nat} {MT : Nat} {MA : Nat} {ii : Nat} (hG : G.2.1 < 2147483648) (hB1 : BL.1 ≤ BL.2.2.1) (hB2 : BL.2.1 ≤ BL.2.2.2) (hii : ii + 6 ≤ G.2.1) (hv : INV c nw nx P T ln bo n nb MT MA) (K : ∀ c2 : Nat → Nat → Int, INV c2 nw nx P T ln bo n nb MT MA → SW G (j + 40) mL_law 2308 [some (vf 0), some (vr (0)), some (vr (49)), some (vi (((ii : Nat) : Int)))] [] (S nw nx g, 78 + gn, c2) BL post) : SW G (j + 40) mL_law 1979 [some (vf 0), some (vr (0)), some (vr (49)), some (vi (((ii : Nat) : Int)))] [] (S nw nx g, 78 + gn, c) BL post := by
  have hv0 := hv
  obtain ⟨hIT, hIP, hIR, hIE, ⟨hwx, hSP, ⟨⟨hV, hC, hDn, hSi⟩, ⟨hOr, hMi, hSp, hBr, hBt⟩, ⟨hLa, hGP, hP0, hHT⟩, hMv⟩, hbo, hbl, hE, hM, hln⟩, ⟨hPR, hCR, hRR⟩, hIM⟩ := hv
  have hIM0 := hIM
  obtain ⟨⟨hMT60, hMA30, hMA0, hMf, hMs⟩, ⟨hM1, hM2, hM3, hM4⟩, hM5, hM6⟩ := hIM
  have hnw : nw = 21 ∨ nw = 35 := by omega
  have hRb := hC.1.1
  have hLn := hC.1.2
  have hLn2 : ∀ s, s < gR P → s + 1 < gN P := hC.1.2
  refine g_law_paths (P := P) hG hB1 hB2 ?_
  refine ⟨?_, ?_, ⟨?_, ?_, ⟨?_, ?_, ⟨?_, ?_, ?_, ?_, ?_, ?_, fun c_1 h_1 => ⟨?_, ?_, ⟨?_, ?_, ⟨?_, ?_, ⟨?_, ?_, ?_, ?_, ?_, ?_, ?_, ?_, fun c_2 h_2 => ?_⟩⟩⟩⟩⟩⟩⟩⟩
  all_goals first | assumption | omega | exact i32rng _ | exact ML_row hM (fun a ha hb => h_1 a (by omega)) | exact RR_row hRR (fun a ha hb => h_1 a (by omega)) | exact K _ (INV_SC (INV_C0 hv0 (fun a ha hb => h_1 a hb)) h_2)

set_option maxHeartbeats 2000000 in
set_option maxRecDepth 20000 in
theorem g_law_sided {G : GG} {j nw nx gn : Nat} {g : Nat → Sh} {c : Nat → Nat → Int} {post : Option AV → AM → Prop} {BL : BB} {P : GD} {ii : Nat} (hG : G.2.1 < 2147483648) (hB1 : BL.1 ≤ BL.2.2.1) (hB2 : BL.2.1 ≤ BL.2.2.2)  (hv : (0 ≤ ((ii + 1 : Nat) : Int)) ∧ (((ii + 1 : Nat) : Int) < (G.2.1 : Int)) ∧ ((0 ≤ ((ii + 2 : Nat) : Int)) ∧ (((ii + 2 : Nat) : Int) < (G.2.1 : Int)) ∧ ((nw = 21 ∨ nw = 35) ∧ (EL c nw P) ∧ (GV P) ∧ (-2147483648 ≤ ((G.2.2 (((ii + 1 : Nat) : Int).toNat)).toInt) ∧ ((G.2.2 (((ii + 1 : Nat) : Int).toNat)).toInt) < 2147483648) ∧ (-2147483648 ≤ ((G.2.2 (((ii + 2 : Nat) : Int).toNat)).toInt) ∧ ((G.2.2 (((ii + 2 : Nat) : Int).toNat)).toInt) < 2147483648) ∧ ((0 ≤ ((ii + 1 : Nat) : Int)) ∧ (((ii + 1 : Nat) : Int) < (G.2.1 : Int)) ∧ ((0 ≤ ((ii + 2 : Nat) : Int)) ∧ (((ii + 2 : Nat) : Int) < (G.2.1 : Int)) ∧ ((ML c P) ∧ (GV P) ∧ (GC P) ∧ (-2147483648 ≤ ((G.2.2 (((ii + 1 : Nat) : Int).toNat)).toInt) ∧ ((G.2.2 (((ii + 1 : Nat) : Int).toNat)).toInt) < 2147483648) ∧ (-2147483648 ≤ ((G.2.2 (((ii + 2 : Nat) : Int).toNat)).toInt) ∧ ((G.2.2 (((ii + 2 : Nat) : Int).toNat)).toInt) < 2147483648) ∧ (∀ c_1 : Nat → Nat → Int, SC c c_1 → SW G (j + 40) mL_law 2308 [some (vf 0), some (vr (0)), some (vr (49)), some (vi (((ii : Nat) : Int)))] [] (S nw nx g, 78 + gn, c_1) BL post))))))) :
    SW G (j + 40) mL_law 2023 [some (vf 0), some (vr (0)), some (vr (49)), some (vi (((ii : Nat) : Int)))] [] (S nw nx g, 78 + gn, c) BL post := by
  refine sw_aload_n (dL_law_28.at 11 rfl) rfl rfl ?_
  refine sw_aload_nf (dL_law_28.at 12 rfl) rfl rfl ?_
  refine sw_iload_n (dL_law_28.at 13 rfl) rfl rfl ?_
  refine sw_iconst (dL_law_28.at 14 rfl) ?_
  refine sw_iadd (dL_law_28.at 15 rfl) ?_
  refine sw_topI (y := ((ii + 1 : Nat) : Int)) (by first | rfl | (congr 1)) ?_
  refine sw_sld (dL_law_28.at 16 rfl) hG hv.1 hv.2.1 ?_
  replace hv := hv.2.2
  refine sw_aload_nf (dL_law_28.at 17 rfl) rfl rfl ?_
  refine sw_iload_n (dL_law_28.at 18 rfl) rfl rfl ?_
  refine sw_iconst (dL_law_28.at 19 rfl) ?_
  refine sw_iadd (dL_law_28.at 20 rfl) ?_
  refine sw_topI (y := ((ii + 2 : Nat) : Int)) (by first | rfl | (congr 1)) ?_
  refine sw_sld (dL_law_28.at 21 rfl) hG hv.1 hv.2.1 ?_
  replace hv := hv.2.2
  refine sw_callV (B' := BL) (As := [vi ((G.2.2 (((ii + 1 : Nat) : Int).toNat)).toInt), vi ((G.2.2 (((ii + 2 : Nat) : Int).toNat)).toInt)]) (mc := 0) (ms := 0) (dL_law_28.at 22 rfl) lk_L_234 (S_lt 0 (by decide)) (S_0 nw nx g) rfl rfl (Nat.le_of_ble_eq_true rfl) rfl hB1 hB2 ?_
  refine c_X8_sided (s := ((G.2.2 (((ii + 1 : Nat) : Int).toNat)).toInt)) (t := ((G.2.2 (((ii + 2 : Nat) : Int).toNat)).toInt)) (P := P) (j := j + 38) hv.1 hv.2.1 hv.2.2.1 hv.2.2.2.1 hv.2.2.2.2.1 ?_
  replace hv := hv.2.2.2.2.2
  refine sw_aload_n (dL_law_28.at 23 rfl) rfl rfl ?_
  refine sw_aload_nf (dL_law_28.at 24 rfl) rfl rfl ?_
  refine sw_iload_n (dL_law_28.at 25 rfl) rfl rfl ?_
  refine sw_iconst (dL_law_28.at 26 rfl) ?_
  refine sw_iadd (dL_law_28.at 27 rfl) ?_
  refine sw_topI (y := ((ii + 1 : Nat) : Int)) (by first | rfl | (congr 1)) ?_
  refine sw_sld (dL_law_28.at 28 rfl) hG hv.1 hv.2.1 ?_
  replace hv := hv.2.2
  refine sw_aload_nf (dL_law_28.at 29 rfl) rfl rfl ?_
  refine sw_iload_n (dL_law_28.at 30 rfl) rfl rfl ?_
  refine sw_iconst (dL_law_28.at 31 rfl) ?_
  refine sw_iadd (dL_law_28.at 32 rfl) ?_
  refine sw_topI (y := ((ii + 2 : Nat) : Int)) (by first | rfl | (congr 1)) ?_
  refine sw_sld (dL_law_28.at 33 rfl) hG hv.1 hv.2.1 ?_
  replace hv := hv.2.2
  refine sw_callV (B' := BL) (As := [vi ((G.2.2 (((ii + 1 : Nat) : Int).toNat)).toInt), vi ((G.2.2 (((ii + 2 : Nat) : Int).toNat)).toInt)]) (mc := 0) (ms := 0) (dL_law_28.at 34 rfl) lk_L_237 (S_lt 49 (by decide)) (S_49 nw nx g) rfl rfl (Nat.le_of_ble_eq_true rfl) rfl hB1 hB2 ?_
  refine c_X9_sided (s := ((G.2.2 (((ii + 1 : Nat) : Int).toNat)).toInt)) (t := ((G.2.2 (((ii + 2 : Nat) : Int).toNat)).toInt)) (P := P) (j := j + 37) hv.1 hv.2.1 hv.2.2.1 hv.2.2.2.1 hv.2.2.2.2.1 (fun c_1 h_1 => ?_)
  replace hv := hv.2.2.2.2.2 c_1 h_1
  refine sw_icmp_same (tgt := 2308) (dL_law_28.at 35 rfl) (by decide) ?_
  exact hv

theorem cs_sided {G : GG} {j nw nx gn : Nat} {g : Nat → Sh} {c : Nat → Nat → Int} {post : Option AV → AM → Prop} {BL : BB} {P : GD} {T : PT} {ln : Nat} {bo : Nat → Nat} {n : Nat} {nb : Nat → Nat} {MT : Nat} {MA : Nat} {ii : Nat} (hG : G.2.1 < 2147483648) (hB1 : BL.1 ≤ BL.2.2.1) (hB2 : BL.2.1 ≤ BL.2.2.2) (hii : ii + 6 ≤ G.2.1) (hv : INV c nw nx P T ln bo n nb MT MA) (K : ∀ c2 : Nat → Nat → Int, INV c2 nw nx P T ln bo n nb MT MA → SW G (j + 40) mL_law 2308 [some (vf 0), some (vr (0)), some (vr (49)), some (vi (((ii : Nat) : Int)))] [] (S nw nx g, 78 + gn, c2) BL post) : SW G (j + 40) mL_law 2023 [some (vf 0), some (vr (0)), some (vr (49)), some (vi (((ii : Nat) : Int)))] [] (S nw nx g, 78 + gn, c) BL post := by
  have hv0 := hv
  obtain ⟨hIT, hIP, hIR, hIE, ⟨hwx, hSP, ⟨⟨hV, hC, hDn, hSi⟩, ⟨hOr, hMi, hSp, hBr, hBt⟩, ⟨hLa, hGP, hP0, hHT⟩, hMv⟩, hbo, hbl, hE, hM, hln⟩, ⟨hPR, hCR, hRR⟩, hIM⟩ := hv
  have hIM0 := hIM
  obtain ⟨⟨hMT60, hMA30, hMA0, hMf, hMs⟩, ⟨hM1, hM2, hM3, hM4⟩, hM5, hM6⟩ := hIM
  have hnw : nw = 21 ∨ nw = 35 := by omega
  have hRb := hC.1.1
  have hLn := hC.1.2
  have hLn2 : ∀ s, s < gR P → s + 1 < gN P := hC.1.2
  refine g_law_sided (P := P) hG hB1 hB2 ?_
  refine ⟨?_, ?_, ⟨?_, ?_, ⟨?_, ?_, ?_, ?_, ?_, ⟨?_, ?_, ⟨?_, ?_, ⟨?_, ?_, ?_, ?_, ?_, fun c_1 h_1 => ?_⟩⟩⟩⟩⟩⟩
  all_goals first | assumption | omega | exact i32rng _ | exact K _ (INV_SC hv0 h_1)

set_option maxHeartbeats 2000000 in
set_option maxRecDepth 20000 in
theorem g_law_euler {G : GG} {j nw nx gn : Nat} {g : Nat → Sh} {c : Nat → Nat → Int} {post : Option AV → AM → Prop} {BL : BB} {P : GD} {T : PT} {ii : Nat} (hG : G.2.1 < 2147483648) (hB1 : BL.1 ≤ BL.2.2.1) (hB2 : BL.2.1 ≤ BL.2.2.2)  (hv : (0 ≤ ((ii + 1 : Nat) : Int)) ∧ (((ii + 1 : Nat) : Int) < (G.2.1 : Int)) ∧ ((0 ≤ ((ii + 2 : Nat) : Int)) ∧ (((ii + 2 : Nat) : Int) < (G.2.1 : Int)) ∧ ((nw = 21 ∨ nw = 35) ∧ (EL c nw P) ∧ (GV P) ∧ (-2147483648 ≤ ((G.2.2 (((ii + 1 : Nat) : Int).toNat)).toInt) ∧ ((G.2.2 (((ii + 1 : Nat) : Int).toNat)).toInt) < 2147483648) ∧ (-2147483648 ≤ ((G.2.2 (((ii + 2 : Nat) : Int).toNat)).toInt) ∧ ((G.2.2 (((ii + 2 : Nat) : Int).toNat)).toInt) < 2147483648) ∧ ((0 ≤ ((ii + 1 : Nat) : Int)) ∧ (((ii + 1 : Nat) : Int) < (G.2.1 : Int)) ∧ ((0 ≤ ((ii + 2 : Nat) : Int)) ∧ (((ii + 2 : Nat) : Int) < (G.2.1 : Int)) ∧ ((ML c P) ∧ (GV P) ∧ (GC P) ∧ (GP P T) ∧ (RR P T c) ∧ (-2147483648 ≤ ((G.2.2 (((ii + 1 : Nat) : Int).toNat)).toInt) ∧ ((G.2.2 (((ii + 1 : Nat) : Int).toNat)).toInt) < 2147483648) ∧ (-2147483648 ≤ ((G.2.2 (((ii + 2 : Nat) : Int).toNat)).toInt) ∧ ((G.2.2 (((ii + 2 : Nat) : Int).toNat)).toInt) < 2147483648) ∧ (∀ c_1 : Nat → Nat → Int, (SD c c_1 ∧ RR P T c_1) → SW G (j + 40) mL_law 2308 [some (vf 0), some (vr (0)), some (vr (49)), some (vi (((ii : Nat) : Int)))] [] (S nw nx g, 78 + gn, c_1) BL post))))))) :
    SW G (j + 40) mL_law 2056 [some (vf 0), some (vr (0)), some (vr (49)), some (vi (((ii : Nat) : Int)))] [] (S nw nx g, 78 + gn, c) BL post := by
  refine sw_aload_n (dL_law_28.at 38 rfl) rfl rfl ?_
  refine sw_aload_nf (dL_law_28.at 39 rfl) rfl rfl ?_
  refine sw_iload_n (dL_law_28.at 40 rfl) rfl rfl ?_
  refine sw_iconst (dL_law_28.at 41 rfl) ?_
  refine sw_iadd (dL_law_28.at 42 rfl) ?_
  refine sw_topI (y := ((ii + 1 : Nat) : Int)) (by first | rfl | (congr 1)) ?_
  refine sw_sld (dL_law_28.at 43 rfl) hG hv.1 hv.2.1 ?_
  replace hv := hv.2.2
  refine sw_aload_nf (dL_law_28.at 44 rfl) rfl rfl ?_
  refine sw_iload_n (dL_law_28.at 45 rfl) rfl rfl ?_
  refine sw_iconst (dL_law_28.at 46 rfl) ?_
  refine sw_iadd (dL_law_28.at 47 rfl) ?_
  refine sw_topI (y := ((ii + 2 : Nat) : Int)) (by first | rfl | (congr 1)) ?_
  refine sw_sld (dL_law_28.at 48 rfl) hG hv.1 hv.2.1 ?_
  replace hv := hv.2.2
  refine sw_callV (B' := BL) (As := [vi ((G.2.2 (((ii + 1 : Nat) : Int).toNat)).toInt), vi ((G.2.2 (((ii + 2 : Nat) : Int).toNat)).toInt)]) (mc := 0) (ms := 0) (dL_law_28.at 49 rfl) lk_L_238 (S_lt 0 (by decide)) (S_0 nw nx g) rfl rfl (Nat.le_of_ble_eq_true rfl) rfl hB1 hB2 ?_
  refine c_X8_euler (x := ((G.2.2 (((ii + 1 : Nat) : Int).toNat)).toInt)) (y := ((G.2.2 (((ii + 2 : Nat) : Int).toNat)).toInt)) (P := P) (j := j + 36) hv.1 hv.2.1 hv.2.2.1 hv.2.2.2.1 hv.2.2.2.2.1 ?_
  replace hv := hv.2.2.2.2.2
  refine sw_aload_n (dL_law_29.at 0 rfl) rfl rfl ?_
  refine sw_aload_nf (dL_law_29.at 1 rfl) rfl rfl ?_
  refine sw_iload_n (dL_law_29.at 2 rfl) rfl rfl ?_
  refine sw_iconst (dL_law_29.at 3 rfl) ?_
  refine sw_iadd (dL_law_29.at 4 rfl) ?_
  refine sw_topI (y := ((ii + 1 : Nat) : Int)) (by first | rfl | (congr 1)) ?_
  refine sw_sld (dL_law_29.at 5 rfl) hG hv.1 hv.2.1 ?_
  replace hv := hv.2.2
  refine sw_aload_nf (dL_law_29.at 6 rfl) rfl rfl ?_
  refine sw_iload_n (dL_law_29.at 7 rfl) rfl rfl ?_
  refine sw_iconst (dL_law_29.at 8 rfl) ?_
  refine sw_iadd (dL_law_29.at 9 rfl) ?_
  refine sw_topI (y := ((ii + 2 : Nat) : Int)) (by first | rfl | (congr 1)) ?_
  refine sw_sld (dL_law_29.at 10 rfl) hG hv.1 hv.2.1 ?_
  replace hv := hv.2.2
  refine sw_callV (B' := BL) (As := [vi ((G.2.2 (((ii + 1 : Nat) : Int).toNat)).toInt), vi ((G.2.2 (((ii + 2 : Nat) : Int).toNat)).toInt)]) (mc := 0) (ms := 0) (dL_law_29.at 11 rfl) lk_L_241 (S_lt 49 (by decide)) (S_49 nw nx g) rfl rfl (Nat.le_of_ble_eq_true rfl) rfl hB1 hB2 ?_
  refine c_X9_euler (x := ((G.2.2 (((ii + 1 : Nat) : Int).toNat)).toInt)) (y := ((G.2.2 (((ii + 2 : Nat) : Int).toNat)).toInt)) (P := P) (T := T) (j := j + 34) hv.1 hv.2.1 hv.2.2.1 hv.2.2.2.1 hv.2.2.2.2.1 hv.2.2.2.2.2.1 hv.2.2.2.2.2.2.1 (fun c_1 h_1 => ?_)
  replace hv := hv.2.2.2.2.2.2.2 c_1 h_1
  refine sw_icmp_same (tgt := 2308) (dL_law_29.at 12 rfl) (by decide) ?_
  exact hv

theorem cs_euler {G : GG} {j nw nx gn : Nat} {g : Nat → Sh} {c : Nat → Nat → Int} {post : Option AV → AM → Prop} {BL : BB} {P : GD} {T : PT} {ln : Nat} {bo : Nat → Nat} {n : Nat} {nb : Nat → Nat} {MT : Nat} {MA : Nat} {ii : Nat} (hG : G.2.1 < 2147483648) (hB1 : BL.1 ≤ BL.2.2.1) (hB2 : BL.2.1 ≤ BL.2.2.2) (hii : ii + 6 ≤ G.2.1) (hv : INV c nw nx P T ln bo n nb MT MA) (K : ∀ c2 : Nat → Nat → Int, INV c2 nw nx P T ln bo n nb MT MA → SW G (j + 40) mL_law 2308 [some (vf 0), some (vr (0)), some (vr (49)), some (vi (((ii : Nat) : Int)))] [] (S nw nx g, 78 + gn, c2) BL post) : SW G (j + 40) mL_law 2056 [some (vf 0), some (vr (0)), some (vr (49)), some (vi (((ii : Nat) : Int)))] [] (S nw nx g, 78 + gn, c) BL post := by
  have hv0 := hv
  obtain ⟨hIT, hIP, hIR, hIE, ⟨hwx, hSP, ⟨⟨hV, hC, hDn, hSi⟩, ⟨hOr, hMi, hSp, hBr, hBt⟩, ⟨hLa, hGP, hP0, hHT⟩, hMv⟩, hbo, hbl, hE, hM, hln⟩, ⟨hPR, hCR, hRR⟩, hIM⟩ := hv
  have hIM0 := hIM
  obtain ⟨⟨hMT60, hMA30, hMA0, hMf, hMs⟩, ⟨hM1, hM2, hM3, hM4⟩, hM5, hM6⟩ := hIM
  have hnw : nw = 21 ∨ nw = 35 := by omega
  have hRb := hC.1.1
  have hLn := hC.1.2
  have hLn2 : ∀ s, s < gR P → s + 1 < gN P := hC.1.2
  refine g_law_euler (P := P) (T := T) hG hB1 hB2 ?_
  refine ⟨?_, ?_, ⟨?_, ?_, ⟨?_, ?_, ?_, ?_, ?_, ⟨?_, ?_, ⟨?_, ?_, ⟨?_, ?_, ?_, ?_, ?_, ?_, ?_, fun c_1 h_1 => ?_⟩⟩⟩⟩⟩⟩
  all_goals first | assumption | omega | exact i32rng _ | exact K _ (INV_SD hv0 h_1.1 h_1.2)

set_option maxHeartbeats 2000000 in
set_option maxRecDepth 20000 in
theorem g_law_conjugate {G : GG} {j nw nx gn : Nat} {g : Nat → Sh} {c : Nat → Nat → Int} {post : Option AV → AM → Prop} {BL : BB} {P : GD} {ii : Nat} (hG : G.2.1 < 2147483648) (hB1 : BL.1 ≤ BL.2.2.1) (hB2 : BL.2.1 ≤ BL.2.2.2)  (hv : (0 ≤ ((ii + 1 : Nat) : Int)) ∧ (((ii + 1 : Nat) : Int) < (G.2.1 : Int)) ∧ ((nw = 21 ∨ nw = 35) ∧ (EL c nw P) ∧ (GV P) ∧ (-2147483648 ≤ ((G.2.2 (((ii + 1 : Nat) : Int).toNat)).toInt) ∧ ((G.2.2 (((ii + 1 : Nat) : Int).toNat)).toInt) < 2147483648) ∧ ((0 ≤ ((ii + 1 : Nat) : Int)) ∧ (((ii + 1 : Nat) : Int) < (G.2.1 : Int)) ∧ ((ML c P) ∧ (GV P) ∧ (GC P) ∧ (-2147483648 ≤ ((G.2.2 (((ii + 1 : Nat) : Int).toNat)).toInt) ∧ ((G.2.2 (((ii + 1 : Nat) : Int).toNat)).toInt) < 2147483648) ∧ (∀ c_1 : Nat → Nat → Int, SC c c_1 → SW G (j + 40) mL_law 2308 [some (vf 0), some (vr (0)), some (vr (49)), some (vi (((ii : Nat) : Int)))] [] (S nw nx g, 78 + gn, c_1) BL post))))) :
    SW G (j + 40) mL_law 2089 [some (vf 0), some (vr (0)), some (vr (49)), some (vi (((ii : Nat) : Int)))] [] (S nw nx g, 78 + gn, c) BL post := by
  refine sw_aload_n (dL_law_29.at 15 rfl) rfl rfl ?_
  refine sw_aload_nf (dL_law_29.at 16 rfl) rfl rfl ?_
  refine sw_iload_n (dL_law_29.at 17 rfl) rfl rfl ?_
  refine sw_iconst (dL_law_29.at 18 rfl) ?_
  refine sw_iadd (dL_law_29.at 19 rfl) ?_
  refine sw_topI (y := ((ii + 1 : Nat) : Int)) (by first | rfl | (congr 1)) ?_
  refine sw_sld (dL_law_29.at 20 rfl) hG hv.1 hv.2.1 ?_
  replace hv := hv.2.2
  refine sw_callV (B' := BL) (As := [vi ((G.2.2 (((ii + 1 : Nat) : Int).toNat)).toInt)]) (mc := 0) (ms := 0) (dL_law_29.at 21 rfl) lk_L_242 (S_lt 0 (by decide)) (S_0 nw nx g) rfl rfl (Nat.le_of_ble_eq_true rfl) rfl hB1 hB2 ?_
  refine c_X8_conjugate (x := ((G.2.2 (((ii + 1 : Nat) : Int).toNat)).toInt)) (P := P) (j := j + 37) hv.1 hv.2.1 hv.2.2.1 hv.2.2.2.1 ?_
  replace hv := hv.2.2.2.2
  refine sw_aload_n (dL_law_29.at 22 rfl) rfl rfl ?_
  refine sw_aload_nf (dL_law_29.at 23 rfl) rfl rfl ?_
  refine sw_iload_n (dL_law_29.at 24 rfl) rfl rfl ?_
  refine sw_iconst (dL_law_29.at 25 rfl) ?_
  refine sw_iadd (dL_law_29.at 26 rfl) ?_
  refine sw_topI (y := ((ii + 1 : Nat) : Int)) (by first | rfl | (congr 1)) ?_
  refine sw_sld (dL_law_29.at 27 rfl) hG hv.1 hv.2.1 ?_
  replace hv := hv.2.2
  refine sw_callV (B' := BL) (As := [vi ((G.2.2 (((ii + 1 : Nat) : Int).toNat)).toInt)]) (mc := 0) (ms := 0) (dL_law_29.at 28 rfl) lk_L_245 (S_lt 49 (by decide)) (S_49 nw nx g) rfl rfl (Nat.le_of_ble_eq_true rfl) rfl hB1 hB2 ?_
  refine c_X9_conjugate (x := ((G.2.2 (((ii + 1 : Nat) : Int).toNat)).toInt)) (P := P) (j := j + 36) hv.1 hv.2.1 hv.2.2.1 hv.2.2.2.1 (fun c_1 h_1 => ?_)
  replace hv := hv.2.2.2.2 c_1 h_1
  refine sw_icmp_same (tgt := 2308) (dL_law_29.at 29 rfl) (by decide) ?_
  exact hv

theorem cs_conjugate {G : GG} {j nw nx gn : Nat} {g : Nat → Sh} {c : Nat → Nat → Int} {post : Option AV → AM → Prop} {BL : BB} {P : GD} {T : PT} {ln : Nat} {bo : Nat → Nat} {n : Nat} {nb : Nat → Nat} {MT : Nat} {MA : Nat} {ii : Nat} (hG : G.2.1 < 2147483648) (hB1 : BL.1 ≤ BL.2.2.1) (hB2 : BL.2.1 ≤ BL.2.2.2) (hii : ii + 6 ≤ G.2.1) (hv : INV c nw nx P T ln bo n nb MT MA) (K : ∀ c2 : Nat → Nat → Int, INV c2 nw nx P T ln bo n nb MT MA → SW G (j + 40) mL_law 2308 [some (vf 0), some (vr (0)), some (vr (49)), some (vi (((ii : Nat) : Int)))] [] (S nw nx g, 78 + gn, c2) BL post) : SW G (j + 40) mL_law 2089 [some (vf 0), some (vr (0)), some (vr (49)), some (vi (((ii : Nat) : Int)))] [] (S nw nx g, 78 + gn, c) BL post := by
  have hv0 := hv
  obtain ⟨hIT, hIP, hIR, hIE, ⟨hwx, hSP, ⟨⟨hV, hC, hDn, hSi⟩, ⟨hOr, hMi, hSp, hBr, hBt⟩, ⟨hLa, hGP, hP0, hHT⟩, hMv⟩, hbo, hbl, hE, hM, hln⟩, ⟨hPR, hCR, hRR⟩, hIM⟩ := hv
  have hIM0 := hIM
  obtain ⟨⟨hMT60, hMA30, hMA0, hMf, hMs⟩, ⟨hM1, hM2, hM3, hM4⟩, hM5, hM6⟩ := hIM
  have hnw : nw = 21 ∨ nw = 35 := by omega
  have hRb := hC.1.1
  have hLn := hC.1.2
  have hLn2 : ∀ s, s < gR P → s + 1 < gN P := hC.1.2
  refine g_law_conjugate (P := P) hG hB1 hB2 ?_
  refine ⟨?_, ?_, ⟨?_, ?_, ?_, ?_, ⟨?_, ?_, ⟨?_, ?_, ?_, ?_, fun c_1 h_1 => ?_⟩⟩⟩⟩
  all_goals first | assumption | omega | exact i32rng _ | exact K _ (INV_SC hv0 h_1)

set_option maxHeartbeats 2000000 in
set_option maxRecDepth 20000 in
theorem g_law_conjugates {G : GG} {j nw nx gn : Nat} {g : Nat → Sh} {c : Nat → Nat → Int} {post : Option AV → AM → Prop} {BL : BB} {P : GD} {ii : Nat} (hG : G.2.1 < 2147483648) (hB1 : BL.1 ≤ BL.2.2.1) (hB2 : BL.2.1 ≤ BL.2.2.2)  (hv : (0 ≤ ((ii + 1 : Nat) : Int)) ∧ (((ii + 1 : Nat) : Int) < (G.2.1 : Int)) ∧ ((nw = 21 ∨ nw = 35) ∧ (EL c nw P) ∧ (GV P) ∧ (-2147483648 ≤ ((G.2.2 (((ii + 1 : Nat) : Int).toNat)).toInt) ∧ ((G.2.2 (((ii + 1 : Nat) : Int).toNat)).toInt) < 2147483648) ∧ ((0 ≤ ((ii + 1 : Nat) : Int)) ∧ (((ii + 1 : Nat) : Int) < (G.2.1 : Int)) ∧ ((ML c P) ∧ (GV P) ∧ (GC P) ∧ (-2147483648 ≤ ((G.2.2 (((ii + 1 : Nat) : Int).toNat)).toInt) ∧ ((G.2.2 (((ii + 1 : Nat) : Int).toNat)).toInt) < 2147483648) ∧ (∀ c_1 : Nat → Nat → Int, SC c c_1 → SW G (j + 40) mL_law 2308 [some (vf 0), some (vr (0)), some (vr (49)), some (vi (((ii : Nat) : Int)))] [] (S nw nx g, 78 + gn, c_1) BL post))))) :
    SW G (j + 40) mL_law 2112 [some (vf 0), some (vr (0)), some (vr (49)), some (vi (((ii : Nat) : Int)))] [] (S nw nx g, 78 + gn, c) BL post := by
  refine sw_aload_n (dL_law_29.at 32 rfl) rfl rfl ?_
  refine sw_aload_nf (dL_law_29.at 33 rfl) rfl rfl ?_
  refine sw_iload_n (dL_law_29.at 34 rfl) rfl rfl ?_
  refine sw_iconst (dL_law_29.at 35 rfl) ?_
  refine sw_iadd (dL_law_29.at 36 rfl) ?_
  refine sw_topI (y := ((ii + 1 : Nat) : Int)) (by first | rfl | (congr 1)) ?_
  refine sw_sld (dL_law_29.at 37 rfl) hG hv.1 hv.2.1 ?_
  replace hv := hv.2.2
  refine sw_callV (B' := BL) (As := [vi ((G.2.2 (((ii + 1 : Nat) : Int).toNat)).toInt)]) (mc := 0) (ms := 0) (dL_law_29.at 38 rfl) lk_L_246 (S_lt 0 (by decide)) (S_0 nw nx g) rfl rfl (Nat.le_of_ble_eq_true rfl) rfl hB1 hB2 ?_
  refine c_X8_conjugates (x := ((G.2.2 (((ii + 1 : Nat) : Int).toNat)).toInt)) (P := P) (j := j + 37) hv.1 hv.2.1 hv.2.2.1 hv.2.2.2.1 ?_
  replace hv := hv.2.2.2.2
  refine sw_aload_n (dL_law_29.at 39 rfl) rfl rfl ?_
  refine sw_aload_nf (dL_law_29.at 40 rfl) rfl rfl ?_
  refine sw_iload_n (dL_law_29.at 41 rfl) rfl rfl ?_
  refine sw_iconst (dL_law_29.at 42 rfl) ?_
  refine sw_iadd (dL_law_29.at 43 rfl) ?_
  refine sw_topI (y := ((ii + 1 : Nat) : Int)) (by first | rfl | (congr 1)) ?_
  refine sw_sld (dL_law_29.at 44 rfl) hG hv.1 hv.2.1 ?_
  replace hv := hv.2.2
  refine sw_callV (B' := BL) (As := [vi ((G.2.2 (((ii + 1 : Nat) : Int).toNat)).toInt)]) (mc := 0) (ms := 0) (dL_law_29.at 45 rfl) lk_L_249 (S_lt 49 (by decide)) (S_49 nw nx g) rfl rfl (Nat.le_of_ble_eq_true rfl) rfl hB1 hB2 ?_
  refine c_X9_conjugates (x := ((G.2.2 (((ii + 1 : Nat) : Int).toNat)).toInt)) (P := P) (j := j + 36) hv.1 hv.2.1 hv.2.2.1 hv.2.2.2.1 (fun c_1 h_1 => ?_)
  replace hv := hv.2.2.2.2 c_1 h_1
  refine sw_icmp_same (tgt := 2308) (dL_law_29.at 46 rfl) (by decide) ?_
  exact hv

theorem cs_conjugates {G : GG} {j nw nx gn : Nat} {g : Nat → Sh} {c : Nat → Nat → Int} {post : Option AV → AM → Prop} {BL : BB} {P : GD} {T : PT} {ln : Nat} {bo : Nat → Nat} {n : Nat} {nb : Nat → Nat} {MT : Nat} {MA : Nat} {ii : Nat} (hG : G.2.1 < 2147483648) (hB1 : BL.1 ≤ BL.2.2.1) (hB2 : BL.2.1 ≤ BL.2.2.2) (hii : ii + 6 ≤ G.2.1) (hv : INV c nw nx P T ln bo n nb MT MA) (K : ∀ c2 : Nat → Nat → Int, INV c2 nw nx P T ln bo n nb MT MA → SW G (j + 40) mL_law 2308 [some (vf 0), some (vr (0)), some (vr (49)), some (vi (((ii : Nat) : Int)))] [] (S nw nx g, 78 + gn, c2) BL post) : SW G (j + 40) mL_law 2112 [some (vf 0), some (vr (0)), some (vr (49)), some (vi (((ii : Nat) : Int)))] [] (S nw nx g, 78 + gn, c) BL post := by
  have hv0 := hv
  obtain ⟨hIT, hIP, hIR, hIE, ⟨hwx, hSP, ⟨⟨hV, hC, hDn, hSi⟩, ⟨hOr, hMi, hSp, hBr, hBt⟩, ⟨hLa, hGP, hP0, hHT⟩, hMv⟩, hbo, hbl, hE, hM, hln⟩, ⟨hPR, hCR, hRR⟩, hIM⟩ := hv
  have hIM0 := hIM
  obtain ⟨⟨hMT60, hMA30, hMA0, hMf, hMs⟩, ⟨hM1, hM2, hM3, hM4⟩, hM5, hM6⟩ := hIM
  have hnw : nw = 21 ∨ nw = 35 := by omega
  have hRb := hC.1.1
  have hLn := hC.1.2
  have hLn2 : ∀ s, s < gR P → s + 1 < gN P := hC.1.2
  refine g_law_conjugates (P := P) hG hB1 hB2 ?_
  refine ⟨?_, ?_, ⟨?_, ?_, ?_, ?_, ⟨?_, ?_, ⟨?_, ?_, ?_, ?_, fun c_1 h_1 => ?_⟩⟩⟩⟩
  all_goals first | assumption | omega | exact i32rng _ | exact K _ (INV_SC hv0 h_1)

set_option maxHeartbeats 2000000 in
set_option maxRecDepth 20000 in
theorem g_law_ideal {G : GG} {j nw nx gn : Nat} {g : Nat → Sh} {c : Nat → Nat → Int} {post : Option AV → AM → Prop} {BL : BB} {P : GD} {T : PT} {MT : Nat} {MA : Nat} {ii : Nat} (hG : G.2.1 < 2147483648) (hB1 : BL.1 ≤ BL.2.2.1) (hB2 : BL.2.1 ≤ BL.2.2.2)  (hv : (nw = 21 ∨ nw = 35) ∧ (EL c nw P) ∧ (GV P) ∧ (c 15 4 = ((MT : Nat) : Int)) ∧ (c 15 5 = ((MA : Nat) : Int)) ∧ (MT < 2 ^ 60) ∧ ((ML c P) ∧ (GV P) ∧ (GC P) ∧ (GP P T) ∧ (RR P T c) ∧ (c 49 38 = ((MT : Nat) : Int)) ∧ (c 49 39 = ((MA : Nat) : Int)) ∧ (hDn P) ∧ (MT < 2 ^ 60) ∧ (∀ c_1 : Nat → Nat → Int, (SD c c_1 ∧ RR P T c_1) → SW G (j + 40) mL_law 2308 [some (vf 0), some (vr (0)), some (vr (49)), some (vi (((ii : Nat) : Int)))] [] (S nw nx g, 78 + gn, c_1) BL post))) :
    SW G (j + 40) mL_law 2135 [some (vf 0), some (vr (0)), some (vr (49)), some (vi (((ii : Nat) : Int)))] [] (S nw nx g, 78 + gn, c) BL post := by
  refine sw_aload_n (dL_law_29.at 49 rfl) rfl rfl ?_
  refine sw_callV (B' := BL) (As := []) (mc := 0) (ms := 0) (dL_law_30.at 0 rfl) lk_L_250 (S_lt 0 (by decide)) (S_0 nw nx g) rfl rfl (Nat.le_of_ble_eq_true rfl) rfl hB1 hB2 ?_
  refine c_X8_ideal (P := P) (T := MT) (A := MA) (j := j + 37) hv.1 hv.2.1 hv.2.2.1 hv.2.2.2.1 hv.2.2.2.2.1 hv.2.2.2.2.2.1 ?_
  replace hv := hv.2.2.2.2.2.2
  refine sw_aload_n (dL_law_30.at 1 rfl) rfl rfl ?_
  refine sw_callV (B' := BL) (As := []) (mc := 0) (ms := 0) (dL_law_30.at 2 rfl) lk_L_254 (S_lt 49 (by decide)) (S_49 nw nx g) rfl rfl (Nat.le_of_ble_eq_true rfl) rfl hB1 hB2 ?_
  refine c_X9_ideal (P := P) (T := T) (T9 := MT) (A9 := MA) (j := j + 34) hv.1 hv.2.1 hv.2.2.1 hv.2.2.2.1 hv.2.2.2.2.1 hv.2.2.2.2.2.1 hv.2.2.2.2.2.2.1 hv.2.2.2.2.2.2.2.1 hv.2.2.2.2.2.2.2.2.1 (fun c_1 h_1 => ?_)
  replace hv := hv.2.2.2.2.2.2.2.2.2 c_1 h_1
  refine sw_lcmp_same (tgt := 2308) (dL_law_30.at 3 rfl) (dL_law_30.at 4 rfl) (by decide) ?_
  exact hv

theorem cs_ideal {G : GG} {j nw nx gn : Nat} {g : Nat → Sh} {c : Nat → Nat → Int} {post : Option AV → AM → Prop} {BL : BB} {P : GD} {T : PT} {ln : Nat} {bo : Nat → Nat} {n : Nat} {nb : Nat → Nat} {MT : Nat} {MA : Nat} {ii : Nat} (hG : G.2.1 < 2147483648) (hB1 : BL.1 ≤ BL.2.2.1) (hB2 : BL.2.1 ≤ BL.2.2.2) (hii : ii + 6 ≤ G.2.1) (hv : INV c nw nx P T ln bo n nb MT MA) (K : ∀ c2 : Nat → Nat → Int, INV c2 nw nx P T ln bo n nb MT MA → SW G (j + 40) mL_law 2308 [some (vf 0), some (vr (0)), some (vr (49)), some (vi (((ii : Nat) : Int)))] [] (S nw nx g, 78 + gn, c2) BL post) : SW G (j + 40) mL_law 2135 [some (vf 0), some (vr (0)), some (vr (49)), some (vi (((ii : Nat) : Int)))] [] (S nw nx g, 78 + gn, c) BL post := by
  have hv0 := hv
  obtain ⟨hIT, hIP, hIR, hIE, ⟨hwx, hSP, ⟨⟨hV, hC, hDn, hSi⟩, ⟨hOr, hMi, hSp, hBr, hBt⟩, ⟨hLa, hGP, hP0, hHT⟩, hMv⟩, hbo, hbl, hE, hM, hln⟩, ⟨hPR, hCR, hRR⟩, hIM⟩ := hv
  have hIM0 := hIM
  obtain ⟨⟨hMT60, hMA30, hMA0, hMf, hMs⟩, ⟨hM1, hM2, hM3, hM4⟩, hM5, hM6⟩ := hIM
  have hnw : nw = 21 ∨ nw = 35 := by omega
  have hRb := hC.1.1
  have hLn := hC.1.2
  have hLn2 : ∀ s, s < gR P → s + 1 < gN P := hC.1.2
  refine g_law_ideal (P := P) (T := T) (MT := MT) (MA := MA) hG hB1 hB2 ?_
  refine ⟨?_, ?_, ?_, ?_, ?_, ?_, ⟨?_, ?_, ?_, ?_, ?_, ?_, ?_, ?_, ?_, fun c_1 h_1 => ?_⟩⟩
  all_goals first | assumption | omega | exact i32rng _ | exact K _ (INV_SD hv0 h_1.1 h_1.2)

set_option maxHeartbeats 2000000 in
set_option maxRecDepth 20000 in
theorem g_law_peaks {G : GG} {j nw nx gn : Nat} {g : Nat → Sh} {c : Nat → Nat → Int} {post : Option AV → AM → Prop} {BL : BB} {P : GD} {T : PT} {MT : Nat} {MA : Nat} {ii : Nat} (hG : G.2.1 < 2147483648) (hB1 : BL.1 ≤ BL.2.2.1) (hB2 : BL.2.1 ≤ BL.2.2.2)  (hv : (nw = 21 ∨ nw = 35) ∧ (EL c nw P) ∧ (GV P) ∧ (c 15 4 = ((MT : Nat) : Int)) ∧ (c 15 5 = ((MA : Nat) : Int)) ∧ (MT < 2 ^ 60) ∧ ((ML c P) ∧ (GV P) ∧ (GC P) ∧ (GP P T) ∧ (RR P T c) ∧ (c 49 38 = ((MT : Nat) : Int)) ∧ (c 49 39 = ((MA : Nat) : Int)) ∧ (hDn P) ∧ (MT < 2 ^ 60) ∧ (∀ c_1 : Nat → Nat → Int, (SD c c_1 ∧ RR P T c_1) → SW G (j + 40) mL_law 2308 [some (vf 0), some (vr (0)), some (vr (49)), some (vi (((ii : Nat) : Int)))] [] (S nw nx g, 78 + gn, c_1) BL post))) :
    SW G (j + 40) mL_law 2149 [some (vf 0), some (vr (0)), some (vr (49)), some (vi (((ii : Nat) : Int)))] [] (S nw nx g, 78 + gn, c) BL post := by
  refine sw_aload_n (dL_law_30.at 7 rfl) rfl rfl ?_
  refine sw_callV (B' := BL) (As := []) (mc := 0) (ms := 0) (dL_law_30.at 8 rfl) lk_L_255 (S_lt 0 (by decide)) (S_0 nw nx g) rfl rfl (Nat.le_of_ble_eq_true rfl) rfl hB1 hB2 ?_
  refine c_X8_peaks (P := P) (T := MT) (A := MA) (j := j + 37) hv.1 hv.2.1 hv.2.2.1 hv.2.2.2.1 hv.2.2.2.2.1 hv.2.2.2.2.2.1 ?_
  replace hv := hv.2.2.2.2.2.2
  refine sw_aload_n (dL_law_30.at 9 rfl) rfl rfl ?_
  refine sw_callV (B' := BL) (As := []) (mc := 0) (ms := 0) (dL_law_30.at 10 rfl) lk_L_258 (S_lt 49 (by decide)) (S_49 nw nx g) rfl rfl (Nat.le_of_ble_eq_true rfl) rfl hB1 hB2 ?_
  refine c_X9_peaks (P := P) (T := T) (T9 := MT) (A9 := MA) (j := j + 34) hv.1 hv.2.1 hv.2.2.1 hv.2.2.2.1 hv.2.2.2.2.1 hv.2.2.2.2.2.1 hv.2.2.2.2.2.2.1 hv.2.2.2.2.2.2.2.1 hv.2.2.2.2.2.2.2.2.1 (fun c_1 h_1 => ?_)
  replace hv := hv.2.2.2.2.2.2.2.2.2 c_1 h_1
  refine sw_lcmp_same (tgt := 2308) (dL_law_30.at 11 rfl) (dL_law_30.at 12 rfl) (by decide) ?_
  exact hv

theorem cs_peaks {G : GG} {j nw nx gn : Nat} {g : Nat → Sh} {c : Nat → Nat → Int} {post : Option AV → AM → Prop} {BL : BB} {P : GD} {T : PT} {ln : Nat} {bo : Nat → Nat} {n : Nat} {nb : Nat → Nat} {MT : Nat} {MA : Nat} {ii : Nat} (hG : G.2.1 < 2147483648) (hB1 : BL.1 ≤ BL.2.2.1) (hB2 : BL.2.1 ≤ BL.2.2.2) (hii : ii + 6 ≤ G.2.1) (hv : INV c nw nx P T ln bo n nb MT MA) (K : ∀ c2 : Nat → Nat → Int, INV c2 nw nx P T ln bo n nb MT MA → SW G (j + 40) mL_law 2308 [some (vf 0), some (vr (0)), some (vr (49)), some (vi (((ii : Nat) : Int)))] [] (S nw nx g, 78 + gn, c2) BL post) : SW G (j + 40) mL_law 2149 [some (vf 0), some (vr (0)), some (vr (49)), some (vi (((ii : Nat) : Int)))] [] (S nw nx g, 78 + gn, c) BL post := by
  have hv0 := hv
  obtain ⟨hIT, hIP, hIR, hIE, ⟨hwx, hSP, ⟨⟨hV, hC, hDn, hSi⟩, ⟨hOr, hMi, hSp, hBr, hBt⟩, ⟨hLa, hGP, hP0, hHT⟩, hMv⟩, hbo, hbl, hE, hM, hln⟩, ⟨hPR, hCR, hRR⟩, hIM⟩ := hv
  have hIM0 := hIM
  obtain ⟨⟨hMT60, hMA30, hMA0, hMf, hMs⟩, ⟨hM1, hM2, hM3, hM4⟩, hM5, hM6⟩ := hIM
  have hnw : nw = 21 ∨ nw = 35 := by omega
  have hRb := hC.1.1
  have hLn := hC.1.2
  have hLn2 : ∀ s, s < gR P → s + 1 < gN P := hC.1.2
  refine g_law_peaks (P := P) (T := T) (MT := MT) (MA := MA) hG hB1 hB2 ?_
  refine ⟨?_, ?_, ?_, ?_, ?_, ?_, ⟨?_, ?_, ?_, ?_, ?_, ?_, ?_, ?_, ?_, fun c_1 h_1 => ?_⟩⟩
  all_goals first | assumption | omega | exact i32rng _ | exact K _ (INV_SD hv0 h_1.1 h_1.2)

set_option maxHeartbeats 2000000 in
set_option maxRecDepth 20000 in
theorem g_law_marked {G : GG} {j nw nx gn : Nat} {g : Nat → Sh} {c : Nat → Nat → Int} {post : Option AV → AM → Prop} {BL : BB} {P : GD} {T : PT} {MT : Nat} {MA : Nat} {ii : Nat} (hG : G.2.1 < 2147483648) (hB1 : BL.1 ≤ BL.2.2.1) (hB2 : BL.2.1 ≤ BL.2.2.2)  (hv : (nw = 21 ∨ nw = 35) ∧ (EL c nw P) ∧ (GV P) ∧ (c 15 4 = ((MT : Nat) : Int)) ∧ (c 15 5 = ((MA : Nat) : Int)) ∧ (MT < 2 ^ 60) ∧ ((ML c P) ∧ (GV P) ∧ (GC P) ∧ (GP P T) ∧ (RR P T c) ∧ (c 49 38 = ((MT : Nat) : Int)) ∧ (c 49 39 = ((MA : Nat) : Int)) ∧ (hDn P) ∧ (MT < 2 ^ 60) ∧ (∀ c_1 : Nat → Nat → Int, (SD c c_1 ∧ RR P T c_1) → SW G (j + 40) mL_law 2308 [some (vf 0), some (vr (0)), some (vr (49)), some (vi (((ii : Nat) : Int)))] [] (S nw nx g, 78 + gn, c_1) BL post))) :
    SW G (j + 40) mL_law 2163 [some (vf 0), some (vr (0)), some (vr (49)), some (vi (((ii : Nat) : Int)))] [] (S nw nx g, 78 + gn, c) BL post := by
  refine sw_aload_n (dL_law_30.at 15 rfl) rfl rfl ?_
  refine sw_callV (B' := BL) (As := []) (mc := 0) (ms := 0) (dL_law_30.at 16 rfl) lk_L_259 (S_lt 0 (by decide)) (S_0 nw nx g) rfl rfl (Nat.le_of_ble_eq_true rfl) rfl hB1 hB2 ?_
  refine c_X8_marked (P := P) (T := MT) (A := MA) (j := j + 39) hv.1 hv.2.1 hv.2.2.1 hv.2.2.2.1 hv.2.2.2.2.1 hv.2.2.2.2.2.1 ?_
  replace hv := hv.2.2.2.2.2.2
  refine sw_aload_n (dL_law_30.at 17 rfl) rfl rfl ?_
  refine sw_callV (B' := BL) (As := []) (mc := 0) (ms := 0) (dL_law_30.at 18 rfl) lk_L_262 (S_lt 49 (by decide)) (S_49 nw nx g) rfl rfl (Nat.le_of_ble_eq_true rfl) rfl hB1 hB2 ?_
  refine c_X9_marked (P := P) (T := T) (T9 := MT) (A9 := MA) (j := j + 38) hv.1 hv.2.1 hv.2.2.1 hv.2.2.2.1 hv.2.2.2.2.1 hv.2.2.2.2.2.1 hv.2.2.2.2.2.2.1 hv.2.2.2.2.2.2.2.1 hv.2.2.2.2.2.2.2.2.1 (fun c_1 h_1 => ?_)
  replace hv := hv.2.2.2.2.2.2.2.2.2 c_1 h_1
  refine sw_lcmp_same (tgt := 2308) (dL_law_30.at 19 rfl) (dL_law_30.at 20 rfl) (by decide) ?_
  exact hv

theorem cs_marked {G : GG} {j nw nx gn : Nat} {g : Nat → Sh} {c : Nat → Nat → Int} {post : Option AV → AM → Prop} {BL : BB} {P : GD} {T : PT} {ln : Nat} {bo : Nat → Nat} {n : Nat} {nb : Nat → Nat} {MT : Nat} {MA : Nat} {ii : Nat} (hG : G.2.1 < 2147483648) (hB1 : BL.1 ≤ BL.2.2.1) (hB2 : BL.2.1 ≤ BL.2.2.2) (hii : ii + 6 ≤ G.2.1) (hv : INV c nw nx P T ln bo n nb MT MA) (K : ∀ c2 : Nat → Nat → Int, INV c2 nw nx P T ln bo n nb MT MA → SW G (j + 40) mL_law 2308 [some (vf 0), some (vr (0)), some (vr (49)), some (vi (((ii : Nat) : Int)))] [] (S nw nx g, 78 + gn, c2) BL post) : SW G (j + 40) mL_law 2163 [some (vf 0), some (vr (0)), some (vr (49)), some (vi (((ii : Nat) : Int)))] [] (S nw nx g, 78 + gn, c) BL post := by
  have hv0 := hv
  obtain ⟨hIT, hIP, hIR, hIE, ⟨hwx, hSP, ⟨⟨hV, hC, hDn, hSi⟩, ⟨hOr, hMi, hSp, hBr, hBt⟩, ⟨hLa, hGP, hP0, hHT⟩, hMv⟩, hbo, hbl, hE, hM, hln⟩, ⟨hPR, hCR, hRR⟩, hIM⟩ := hv
  have hIM0 := hIM
  obtain ⟨⟨hMT60, hMA30, hMA0, hMf, hMs⟩, ⟨hM1, hM2, hM3, hM4⟩, hM5, hM6⟩ := hIM
  have hnw : nw = 21 ∨ nw = 35 := by omega
  have hRb := hC.1.1
  have hLn := hC.1.2
  have hLn2 : ∀ s, s < gR P → s + 1 < gN P := hC.1.2
  refine g_law_marked (P := P) (T := T) (MT := MT) (MA := MA) hG hB1 hB2 ?_
  refine ⟨?_, ?_, ?_, ?_, ?_, ?_, ⟨?_, ?_, ?_, ?_, ?_, ?_, ?_, ?_, ?_, fun c_1 h_1 => ?_⟩⟩
  all_goals first | assumption | omega | exact i32rng _ | exact K _ (INV_SD hv0 h_1.1 h_1.2)

