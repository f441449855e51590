set_option maxHeartbeats 2000000 in
set_option maxRecDepth 20000 in
theorem g_law_mark {G : GG} {j nw nx gn : Nat} {g : Nat → Sh} {c : Nat → Nat → Int} {post : Option AV → AM → Prop} {BL : BB} {P : GD} {T : PT} {MT : Nat} {MA : Nat} {ii : Nat} (hG : G.2.1 < 2147483648) (hB1 : BL.1 ≤ BL.2.2.1) (hB2 : BL.2.1 ≤ BL.2.2.2)  (hv : (0 ≤ ((ii + 1 : Nat) : Int)) ∧ (((ii + 1 : Nat) : Int) < (G.2.1 : Int)) ∧ ((nw = 21 ∨ nw = 35) ∧ (EL c nw P) ∧ (GV P) ∧ (c 15 4 = ((MT : Nat) : Int)) ∧ (c 15 5 = ((MA : Nat) : Int)) ∧ (MT < 2 ^ 60) ∧ (MA ≤ 30) ∧ (-2147483648 ≤ ((G.2.2 (((ii + 1 : Nat) : Int).toNat)).toInt) ∧ ((G.2.2 (((ii + 1 : Nat) : Int).toNat)).toInt) < 2147483648) ∧ ((0 ≤ ((ii + 1 : Nat) : Int)) ∧ (((ii + 1 : Nat) : Int) < (G.2.1 : Int)) ∧ ((ML (m_mark P MT MA ((G.2.2 (((ii + 1 : Nat) : Int).toNat)).toInt) c) P) ∧ (GV P) ∧ ((m_mark P MT MA ((G.2.2 (((ii + 1 : Nat) : Int).toNat)).toInt) c) 49 38 = ((MT : Nat) : Int)) ∧ ((m_mark P MT MA ((G.2.2 (((ii + 1 : Nat) : Int).toNat)).toInt) c) 49 39 = ((MA : Nat) : Int)) ∧ (MT < 2 ^ 60) ∧ (MA ≤ 30) ∧ (-2147483648 ≤ ((G.2.2 (((ii + 1 : Nat) : Int).toNat)).toInt) ∧ ((G.2.2 (((ii + 1 : Nat) : Int).toNat)).toInt) < 2147483648) ∧ (SW G (j + 40) mL_law 2308 [some (vf 0), some (vr (0)), some (vr (49)), some (vi (((ii : Nat) : Int)))] [] (S nw nx g, 78 + gn, (m9_mark P MT MA ((G.2.2 (((ii + 1 : Nat) : Int).toNat)).toInt) (m_mark P MT MA ((G.2.2 (((ii + 1 : Nat) : Int).toNat)).toInt) c))) BL post))))) :
    SW G (j + 40) mL_law 2177 [some (vf 0), some (vr (0)), some (vr (49)), some (vi (((ii : Nat) : Int)))] [] (S nw nx g, 78 + gn, c) BL post := by
  refine sw_aload_n (dL_law_30.at 23 rfl) rfl rfl ?_
  refine sw_aload_nf (dL_law_30.at 24 rfl) rfl rfl ?_
  refine sw_iload_n (dL_law_30.at 25 rfl) rfl rfl ?_
  refine sw_iconst (dL_law_30.at 26 rfl) ?_
  refine sw_iadd (dL_law_30.at 27 rfl) ?_
  refine sw_topI (y := ((ii + 1 : Nat) : Int)) (by first | rfl | (congr 1)) ?_
  refine sw_sld (dL_law_30.at 28 rfl) hG hv.1 hv.2.1 ?_
  replace hv := hv.2.2
  refine sw_callV (B' := BL) (As := [vi ((G.2.2 (((ii + 1 : Nat) : Int).toNat)).toInt)]) (mc := 0) (ms := 0) (dL_law_30.at 29 rfl) lk_L_263 (S_lt 0 (by decide)) (S_0 nw nx g) rfl rfl (Nat.le_of_ble_eq_true rfl) rfl hB1 hB2 ?_
  refine c_X8_mark (x := ((G.2.2 (((ii + 1 : Nat) : Int).toNat)).toInt)) (P := P) (T := MT) (A := MA) (j := j + 38) hv.1 hv.2.1 hv.2.2.1 hv.2.2.2.1 hv.2.2.2.2.1 hv.2.2.2.2.2.1 hv.2.2.2.2.2.2.1 hv.2.2.2.2.2.2.2.1 ?_
  replace hv := hv.2.2.2.2.2.2.2.2
  refine sw_aload_n (dL_law_30.at 30 rfl) rfl rfl ?_
  refine sw_aload_nf (dL_law_30.at 31 rfl) rfl rfl ?_
  refine sw_iload_n (dL_law_30.at 32 rfl) rfl rfl ?_
  refine sw_iconst (dL_law_30.at 33 rfl) ?_
  refine sw_iadd (dL_law_30.at 34 rfl) ?_
  refine sw_topI (y := ((ii + 1 : Nat) : Int)) (by first | rfl | (congr 1)) ?_
  refine sw_sld (dL_law_30.at 35 rfl) hG hv.1 hv.2.1 ?_
  replace hv := hv.2.2
  refine sw_callV (B' := BL) (As := [vi ((G.2.2 (((ii + 1 : Nat) : Int).toNat)).toInt)]) (mc := 0) (ms := 0) (dL_law_30.at 36 rfl) lk_L_266 (S_lt 49 (by decide)) (S_49 nw nx g) rfl rfl (Nat.le_of_ble_eq_true rfl) rfl hB1 hB2 ?_
  refine c_X9_mark (x := ((G.2.2 (((ii + 1 : Nat) : Int).toNat)).toInt)) (P := P) (T9 := MT) (A9 := MA) (j := j + 37) hv.1 hv.2.1 hv.2.2.1 hv.2.2.2.1 hv.2.2.2.2.1 hv.2.2.2.2.2.1 hv.2.2.2.2.2.2.1 ?_
  replace hv := hv.2.2.2.2.2.2.2
  refine sw_icmp_same (tgt := 2308) (dL_law_30.at 37 rfl) (by decide) ?_
  exact hv

theorem cs_mark {G : GG} {j nw nx gn : Nat} {g : Nat → Sh} {c : Nat → Nat → Int} {post : Option AV → AM → Prop} {BL : BB} {P : GD} {T : PT} {ln : Nat} {bo : Nat → Nat} {n : Nat} {nb : Nat → Nat} {MT : Nat} {MA : Nat} {ii : Nat} (hG : G.2.1 < 2147483648) (hB1 : BL.1 ≤ BL.2.2.1) (hB2 : BL.2.1 ≤ BL.2.2.2) (hii : ii + 6 ≤ G.2.1) (hv : INV c nw nx P T ln bo n nb MT MA) (K : ∀ c2 : Nat → Nat → Int, EMA c2 nw nx P T ln bo n nb → SW G (j + 40) mL_law 2308 [some (vf 0), some (vr (0)), some (vr (49)), some (vi (((ii : Nat) : Int)))] [] (S nw nx g, 78 + gn, c2) BL post) : SW G (j + 40) mL_law 2177 [some (vf 0), some (vr (0)), some (vr (49)), some (vi (((ii : Nat) : Int)))] [] (S nw nx g, 78 + gn, c) BL post := by
  have hv0 := hv
  obtain ⟨hIT, hIP, hIR, hIE, ⟨hwx, hSP, ⟨⟨hV, hC, hDn, hSi⟩, ⟨hOr, hMi, hSp, hBr, hBt⟩, ⟨hLa, hGP, hP0, hHT⟩, hMv⟩, hbo, hbl, hE, hM, hln⟩, ⟨hPR, hCR, hRR⟩, hIM⟩ := hv
  have hIM0 := hIM
  obtain ⟨⟨hMT60, hMA30, hMA0, hMf, hMs⟩, ⟨hM1, hM2, hM3, hM4⟩, hM5, hM6⟩ := hIM
  have hnw : nw = 21 ∨ nw = 35 := by omega
  have hRb := hC.1.1
  have hLn := hC.1.2
  have hLn2 : ∀ s, s < gR P → s + 1 < gN P := hC.1.2
  refine g_law_mark (P := P) (T := T) (MT := MT) (MA := MA) hG hB1 hB2 ?_
  refine ⟨?_, ?_, ⟨?_, ?_, ?_, ?_, ?_, ?_, ?_, ?_, ⟨?_, ?_, ⟨?_, ?_, ?_, ?_, ?_, ?_, ?_, ?_⟩⟩⟩⟩
  all_goals first | assumption | omega | exact i32rng _ | exact ML_row hM (fun a ha hb => m_mark_off _ _ _ _ _ a (by omega)) | exact RR_row hRR (fun a ha hb => m_mark_off _ _ _ _ _ a (by omega)) | (rw [m_mark_off _ _ _ _ _ 49 (by omega)]; assumption) | exact K _ (INV_mark hv0 _)

set_option maxHeartbeats 2000000 in
set_option maxRecDepth 20000 in
theorem g_law_shift {G : GG} {j nw nx gn : Nat} {g : Nat → Sh} {c : Nat → Nat → Int} {post : Option AV → AM → Prop} {BL : BB} {P : GD} {T : PT} {MT : Nat} {MA : Nat} {ii : Nat} (hG : G.2.1 < 2147483648) (hB1 : BL.1 ≤ BL.2.2.1) (hB2 : BL.2.1 ≤ BL.2.2.2)  (hv : (0 ≤ ((ii + 1 : Nat) : Int)) ∧ (((ii + 1 : Nat) : Int) < (G.2.1 : Int)) ∧ ((nw = 21 ∨ nw = 35) ∧ (EL c nw P) ∧ (GV P) ∧ (c 15 4 = ((MT : Nat) : Int)) ∧ (c 15 5 = ((MA : Nat) : Int)) ∧ (MT < 2 ^ 60) ∧ (MA ≤ 30) ∧ (-2147483648 ≤ ((G.2.2 (((ii + 1 : Nat) : Int).toNat)).toInt) ∧ ((G.2.2 (((ii + 1 : Nat) : Int).toNat)).toInt) < 2147483648) ∧ ((0 ≤ ((ii + 1 : Nat) : Int)) ∧ (((ii + 1 : Nat) : Int) < (G.2.1 : Int)) ∧ ((ML (m_shift P MT MA ((G.2.2 (((ii + 1 : Nat) : Int).toNat)).toInt) c) P) ∧ (GV P) ∧ ((m_shift P MT MA ((G.2.2 (((ii + 1 : Nat) : Int).toNat)).toInt) c) 49 38 = ((MT : Nat) : Int)) ∧ ((m_shift P MT MA ((G.2.2 (((ii + 1 : Nat) : Int).toNat)).toInt) c) 49 39 = ((MA : Nat) : Int)) ∧ (MT < 2 ^ 60) ∧ (MA ≤ 30) ∧ (-2147483648 ≤ ((G.2.2 (((ii + 1 : Nat) : Int).toNat)).toInt) ∧ ((G.2.2 (((ii + 1 : Nat) : Int).toNat)).toInt) < 2147483648) ∧ (SW G (j + 40) mL_law 2308 [some (vf 0), some (vr (0)), some (vr (49)), some (vi (((ii : Nat) : Int)))] [] (S nw nx g, 78 + gn, (m9_shift P MT MA ((G.2.2 (((ii + 1 : Nat) : Int).toNat)).toInt) (m_shift P MT MA ((G.2.2 (((ii + 1 : Nat) : Int).toNat)).toInt) c))) BL post))))) :
    SW G (j + 40) mL_law 2213 [some (vf 0), some (vr (0)), some (vr (49)), some (vi (((ii : Nat) : Int)))] [] (S nw nx g, 78 + gn, c) BL post := by
  refine sw_aload_n (dL_law_30.at 47 rfl) rfl rfl ?_
  refine sw_aload_nf (dL_law_30.at 48 rfl) rfl rfl ?_
  refine sw_iload_n (dL_law_30.at 49 rfl) rfl rfl ?_
  refine sw_iconst (dL_law_31.at 0 rfl) ?_
  refine sw_iadd (dL_law_31.at 1 rfl) ?_
  refine sw_topI (y := ((ii + 1 : Nat) : Int)) (by first | rfl | (congr 1)) ?_
  refine sw_sld (dL_law_31.at 2 rfl) hG hv.1 hv.2.1 ?_
  replace hv := hv.2.2
  refine sw_callV (B' := BL) (As := [vi ((G.2.2 (((ii + 1 : Nat) : Int).toNat)).toInt)]) (mc := 0) (ms := 0) (dL_law_31.at 3 rfl) lk_L_271 (S_lt 0 (by decide)) (S_0 nw nx g) rfl rfl (Nat.le_of_ble_eq_true rfl) rfl hB1 hB2 ?_
  refine c_X8_shift (x := ((G.2.2 (((ii + 1 : Nat) : Int).toNat)).toInt)) (P := P) (T := MT) (A := MA) (j := j + 37) hv.1 hv.2.1 hv.2.2.1 hv.2.2.2.1 hv.2.2.2.2.1 hv.2.2.2.2.2.1 hv.2.2.2.2.2.2.1 hv.2.2.2.2.2.2.2.1 ?_
  replace hv := hv.2.2.2.2.2.2.2.2
  refine sw_aload_n (dL_law_31.at 4 rfl) rfl rfl ?_
  refine sw_aload_nf (dL_law_31.at 5 rfl) rfl rfl ?_
  refine sw_iload_n (dL_law_31.at 6 rfl) rfl rfl ?_
  refine sw_iconst (dL_law_31.at 7 rfl) ?_
  refine sw_iadd (dL_law_31.at 8 rfl) ?_
  refine sw_topI (y := ((ii + 1 : Nat) : Int)) (by first | rfl | (congr 1)) ?_
  refine sw_sld (dL_law_31.at 9 rfl) hG hv.1 hv.2.1 ?_
  replace hv := hv.2.2
  refine sw_callV (B' := BL) (As := [vi ((G.2.2 (((ii + 1 : Nat) : Int).toNat)).toInt)]) (mc := 0) (ms := 0) (dL_law_31.at 10 rfl) lk_L_274 (S_lt 49 (by decide)) (S_49 nw nx g) rfl rfl (Nat.le_of_ble_eq_true rfl) rfl hB1 hB2 ?_
  refine c_X9_shift (x := ((G.2.2 (((ii + 1 : Nat) : Int).toNat)).toInt)) (P := P) (T9 := MT) (A9 := MA) (j := j + 37) hv.1 hv.2.1 hv.2.2.1 hv.2.2.2.1 hv.2.2.2.2.1 hv.2.2.2.2.2.1 hv.2.2.2.2.2.2.1 ?_
  replace hv := hv.2.2.2.2.2.2.2
  refine sw_icmp_same (tgt := 2308) (dL_law_31.at 11 rfl) (by decide) ?_
  exact hv

theorem cs_shift {G : GG} {j nw nx gn : Nat} {g : Nat → Sh} {c : Nat → Nat → Int} {post : Option AV → AM → Prop} {BL : BB} {P : GD} {T : PT} {ln : Nat} {bo : Nat → Nat} {n : Nat} {nb : Nat → Nat} {MT : Nat} {MA : Nat} {ii : Nat} (hG : G.2.1 < 2147483648) (hB1 : BL.1 ≤ BL.2.2.1) (hB2 : BL.2.1 ≤ BL.2.2.2) (hii : ii + 6 ≤ G.2.1) (hv : INV c nw nx P T ln bo n nb MT MA) (K : ∀ c2 : Nat → Nat → Int, EMA c2 nw nx P T ln bo n nb → SW G (j + 40) mL_law 2308 [some (vf 0), some (vr (0)), some (vr (49)), some (vi (((ii : Nat) : Int)))] [] (S nw nx g, 78 + gn, c2) BL post) : SW G (j + 40) mL_law 2213 [some (vf 0), some (vr (0)), some (vr (49)), some (vi (((ii : Nat) : Int)))] [] (S nw nx g, 78 + gn, c) BL post := by
  have hv0 := hv
  obtain ⟨hIT, hIP, hIR, hIE, ⟨hwx, hSP, ⟨⟨hV, hC, hDn, hSi⟩, ⟨hOr, hMi, hSp, hBr, hBt⟩, ⟨hLa, hGP, hP0, hHT⟩, hMv⟩, hbo, hbl, hE, hM, hln⟩, ⟨hPR, hCR, hRR⟩, hIM⟩ := hv
  have hIM0 := hIM
  obtain ⟨⟨hMT60, hMA30, hMA0, hMf, hMs⟩, ⟨hM1, hM2, hM3, hM4⟩, hM5, hM6⟩ := hIM
  have hnw : nw = 21 ∨ nw = 35 := by omega
  have hRb := hC.1.1
  have hLn := hC.1.2
  have hLn2 : ∀ s, s < gR P → s + 1 < gN P := hC.1.2
  refine g_law_shift (P := P) (T := T) (MT := MT) (MA := MA) hG hB1 hB2 ?_
  refine ⟨?_, ?_, ⟨?_, ?_, ?_, ?_, ?_, ?_, ?_, ?_, ⟨?_, ?_, ⟨?_, ?_, ?_, ?_, ?_, ?_, ?_, ?_⟩⟩⟩⟩
  all_goals first | assumption | omega | exact i32rng _ | exact ML_row hM (fun a ha hb => m_shift_off _ _ _ _ _ a (by omega)) | exact RR_row hRR (fun a ha hb => m_shift_off _ _ _ _ _ a (by omega)) | (rw [m_shift_off _ _ _ _ _ 49 (by omega)]; assumption) | exact K _ (INV_shift hv0 _)

set_option maxHeartbeats 2000000 in
set_option maxRecDepth 20000 in
theorem g_law_thin {G : GG} {j nw nx gn : Nat} {g : Nat → Sh} {c : Nat → Nat → Int} {post : Option AV → AM → Prop} {BL : BB} {P : GD} {T : PT} {MT : Nat} {MA : Nat} {ii : Nat} (hG : G.2.1 < 2147483648) (hB1 : BL.1 ≤ BL.2.2.1) (hB2 : BL.2.1 ≤ BL.2.2.2)  (hv : (nw = 21 ∨ nw = 35) ∧ (EL c nw P) ∧ (GV P) ∧ (c 15 4 = ((MT : Nat) : Int)) ∧ (c 15 5 = ((MA : Nat) : Int)) ∧ (MT < 2 ^ 60) ∧ (MA ≤ 30) ∧ ((ML (m_thin P MT MA c) P) ∧ (GV P) ∧ (GC P) ∧ (GP P T) ∧ (RR P T (m_thin P MT MA c)) ∧ ((m_thin P MT MA c) 49 38 = ((MT : Nat) : Int)) ∧ ((m_thin P MT MA c) 49 39 = ((MA : Nat) : Int)) ∧ (hDn P) ∧ (MT < 2 ^ 60) ∧ (MA ≤ 30) ∧ (∀ c_1 : Nat → Nat → Int, (∃ d : Nat → Nat → Int, SD (m_thin P MT MA c) d ∧ RR P T d ∧ c_1 = m9_thin P MT MA d) → SW G (j + 40) mL_law 2308 [some (vf 0), some (vr (0)), some (vr (49)), some (vi (((ii : Nat) : Int)))] [] (S nw nx g, 78 + gn, c_1) BL post))) :
    SW G (j + 40) mL_law 2200 [some (vf 0), some (vr (0)), some (vr (49)), some (vi (((ii : Nat) : Int)))] [] (S nw nx g, 78 + gn, c) BL post := by
  refine sw_aload_n (dL_law_30.at 40 rfl) rfl rfl ?_
  refine sw_callV (B' := BL) (As := []) (mc := 0) (ms := 0) (dL_law_30.at 41 rfl) lk_L_267 (S_lt 0 (by decide)) (S_0 nw nx g) rfl rfl (Nat.le_of_ble_eq_true rfl) rfl hB1 hB2 ?_
  refine c_X8_thin (P := P) (T := MT) (A := MA) (j := j + 37) hv.1 hv.2.1 hv.2.2.1 hv.2.2.2.1 hv.2.2.2.2.1 hv.2.2.2.2.2.1 hv.2.2.2.2.2.2.1 ?_
  replace hv := hv.2.2.2.2.2.2.2
  refine sw_aload_n (dL_law_30.at 42 rfl) rfl rfl ?_
  refine sw_callV (B' := BL) (As := []) (mc := 0) (ms := 0) (dL_law_30.at 43 rfl) lk_L_270 (S_lt 49 (by decide)) (S_49 nw nx g) rfl rfl (Nat.le_of_ble_eq_true rfl) rfl hB1 hB2 ?_
  refine c9_thin (P := P) (T := T) (T9 := MT) (A9 := MA) (j := j + 34) hv.1 hv.2.1 hv.2.2.1 hv.2.2.2.1 hv.2.2.2.2.1 hv.2.2.2.2.2.1 hv.2.2.2.2.2.2.1 hv.2.2.2.2.2.2.2.1 hv.2.2.2.2.2.2.2.2.1 hv.2.2.2.2.2.2.2.2.2.1 (fun c_1 h_1 => ?_)
  replace hv := hv.2.2.2.2.2.2.2.2.2.2 c_1 h_1
  refine sw_icmp_same (tgt := 2308) (dL_law_30.at 44 rfl) (by decide) ?_
  exact hv

theorem cs_thin {G : GG} {j nw nx gn : Nat} {g : Nat → Sh} {c : Nat → Nat → Int} {post : Option AV → AM → Prop} {BL : BB} {P : GD} {T : PT} {ln : Nat} {bo : Nat → Nat} {n : Nat} {nb : Nat → Nat} {MT : Nat} {MA : Nat} {ii : Nat} (hG : G.2.1 < 2147483648) (hB1 : BL.1 ≤ BL.2.2.1) (hB2 : BL.2.1 ≤ BL.2.2.2) (hii : ii + 6 ≤ G.2.1) (hv : INV c nw nx P T ln bo n nb MT MA) (K : ∀ c2 : Nat → Nat → Int, EMA c2 nw nx P T ln bo n nb → SW G (j + 40) mL_law 2308 [some (vf 0), some (vr (0)), some (vr (49)), some (vi (((ii : Nat) : Int)))] [] (S nw nx g, 78 + gn, c2) BL post) : SW G (j + 40) mL_law 2200 [some (vf 0), some (vr (0)), some (vr (49)), some (vi (((ii : Nat) : Int)))] [] (S nw nx g, 78 + gn, c) BL post := by
  have hv0 := hv
  obtain ⟨hIT, hIP, hIR, hIE, ⟨hwx, hSP, ⟨⟨hV, hC, hDn, hSi⟩, ⟨hOr, hMi, hSp, hBr, hBt⟩, ⟨hLa, hGP, hP0, hHT⟩, hMv⟩, hbo, hbl, hE, hM, hln⟩, ⟨hPR, hCR, hRR⟩, hIM⟩ := hv
  have hIM0 := hIM
  obtain ⟨⟨hMT60, hMA30, hMA0, hMf, hMs⟩, ⟨hM1, hM2, hM3, hM4⟩, hM5, hM6⟩ := hIM
  have hnw : nw = 21 ∨ nw = 35 := by omega
  have hRb := hC.1.1
  have hLn := hC.1.2
  have hLn2 : ∀ s, s < gR P → s + 1 < gN P := hC.1.2
  refine g_law_thin (P := P) (T := T) (MT := MT) (MA := MA) hG hB1 hB2 ?_
  refine ⟨?_, ?_, ?_, ?_, ?_, ?_, ?_, ⟨?_, ?_, ?_, ?_, ?_, ?_, ?_, ?_, ?_, ?_, fun c_1 h_1 => ?_⟩⟩
  all_goals first | assumption | omega | exact i32rng _ | exact ML_row hM (fun a ha hb => m_thin_off _ _ _ _ a (by omega)) | exact RR_row hRR (fun a ha hb => m_thin_off _ _ _ _ a (by omega)) | (rw [m_thin_off _ _ _ _ 49 (by omega)]; assumption) | exact K _ (INV_thin hv0 h_1)

set_option maxHeartbeats 2000000 in
set_option maxRecDepth 20000 in
theorem g_law_undo {G : GG} {j nw nx gn : Nat} {g : Nat → Sh} {c : Nat → Nat → Int} {post : Option AV → AM → Prop} {BL : BB} {P : GD} {T : PT} {MT : Nat} {MA : Nat} {ii : Nat} (hG : G.2.1 < 2147483648) (hB1 : BL.1 ≤ BL.2.2.1) (hB2 : BL.2.1 ≤ BL.2.2.2)  (hv : (nw = 21 ∨ nw = 35) ∧ (EL c nw P) ∧ (GV P) ∧ (c 15 4 = ((MT : Nat) : Int)) ∧ (c 15 5 = ((MA : Nat) : Int)) ∧ (MA ≤ 30) ∧ ((ML (m_undo P MA c) P) ∧ (GV P) ∧ ((m_undo P MA c) 49 38 = ((MT : Nat) : Int)) ∧ ((m_undo P MA c) 49 39 = ((MA : Nat) : Int)) ∧ (MA ≤ 30) ∧ (SW G (j + 40) mL_law 2308 [some (vf 0), some (vr (0)), some (vr (49)), some (vi (((ii : Nat) : Int)))] [] (S nw nx g, 78 + gn, (m9_undo P MA (m_undo P MA c))) BL post))) :
    SW G (j + 40) mL_law 2282 [some (vf 0), some (vr (0)), some (vr (49)), some (vi (((ii : Nat) : Int)))] [] (S nw nx g, 78 + gn, c) BL post := by
  refine sw_aload_n (dL_law_31.at 48 rfl) rfl rfl ?_
  refine sw_callV (B' := BL) (As := []) (mc := 0) (ms := 0) (dL_law_31.at 49 rfl) lk_L_283 (S_lt 0 (by decide)) (S_0 nw nx g) rfl rfl (Nat.le_of_ble_eq_true rfl) rfl hB1 hB2 ?_
  refine c_X8_undo (P := P) (T := MT) (A := MA) (j := j + 38) hv.1 hv.2.1 hv.2.2.1 hv.2.2.2.1 hv.2.2.2.2.1 hv.2.2.2.2.2.1 ?_
  replace hv := hv.2.2.2.2.2.2
  refine sw_aload_n (dL_law_32.at 0 rfl) rfl rfl ?_
  refine sw_callV (B' := BL) (As := []) (mc := 0) (ms := 0) (dL_law_32.at 1 rfl) lk_L_286 (S_lt 49 (by decide)) (S_49 nw nx g) rfl rfl (Nat.le_of_ble_eq_true rfl) rfl hB1 hB2 ?_
  refine c_X9_undo (P := P) (T9 := MT) (A9 := MA) (j := j + 38) hv.1 hv.2.1 hv.2.2.1 hv.2.2.2.1 hv.2.2.2.2.1 ?_
  replace hv := hv.2.2.2.2.2
  refine sw_icmp_same (tgt := 2308) (dL_law_32.at 2 rfl) (by decide) ?_
  exact hv

theorem cs_undo {G : GG} {j nw nx gn : Nat} {g : Nat → Sh} {c : Nat → Nat → Int} {post : Option AV → AM → Prop} {BL : BB} {P : GD} {T : PT} {ln : Nat} {bo : Nat → Nat} {n : Nat} {nb : Nat → Nat} {MT : Nat} {MA : Nat} {ii : Nat} (hG : G.2.1 < 2147483648) (hB1 : BL.1 ≤ BL.2.2.1) (hB2 : BL.2.1 ≤ BL.2.2.2) (hii : ii + 6 ≤ G.2.1) (hv : INV c nw nx P T ln bo n nb MT MA) (K : ∀ c2 : Nat → Nat → Int, EMA c2 nw nx P T ln bo n nb → SW G (j + 40) mL_law 2308 [some (vf 0), some (vr (0)), some (vr (49)), some (vi (((ii : Nat) : Int)))] [] (S nw nx g, 78 + gn, c2) BL post) : SW G (j + 40) mL_law 2282 [some (vf 0), some (vr (0)), some (vr (49)), some (vi (((ii : Nat) : Int)))] [] (S nw nx g, 78 + gn, c) BL post := by
  have hv0 := hv
  obtain ⟨hIT, hIP, hIR, hIE, ⟨hwx, hSP, ⟨⟨hV, hC, hDn, hSi⟩, ⟨hOr, hMi, hSp, hBr, hBt⟩, ⟨hLa, hGP, hP0, hHT⟩, hMv⟩, hbo, hbl, hE, hM, hln⟩, ⟨hPR, hCR, hRR⟩, hIM⟩ := hv
  have hIM0 := hIM
  obtain ⟨⟨hMT60, hMA30, hMA0, hMf, hMs⟩, ⟨hM1, hM2, hM3, hM4⟩, hM5, hM6⟩ := hIM
  have hnw : nw = 21 ∨ nw = 35 := by omega
  have hRb := hC.1.1
  have hLn := hC.1.2
  have hLn2 : ∀ s, s < gR P → s + 1 < gN P := hC.1.2
  refine g_law_undo (P := P) (T := T) (MT := MT) (MA := MA) hG hB1 hB2 ?_
  refine ⟨?_, ?_, ?_, ?_, ?_, ?_, ⟨?_, ?_, ?_, ?_, ?_, ?_⟩⟩
  all_goals first | assumption | omega | exact i32rng _ | exact ML_row hM (fun a ha hb => m_undo_off _ _ _ a (by omega)) | exact RR_row hRR (fun a ha hb => m_undo_off _ _ _ a (by omega)) | (rw [m_undo_off _ _ _ 49 (by omega)]; assumption) | exact K _ (INV_undo hv0)

set_option maxHeartbeats 2000000 in
set_option maxRecDepth 20000 in
theorem g_law_anew {G : GG} {j nw nx gn : Nat} {g : Nat → Sh} {c : Nat → Nat → Int} {post : Option AV → AM → Prop} {BL : BB} {P : GD} {T : PT} {MT : Nat} {MA : Nat} {ii : Nat} (hG : G.2.1 < 2147483648) (hB1 : BL.1 ≤ BL.2.2.1) (hB2 : BL.2.1 ≤ BL.2.2.2)  (hv : (nw = 21 ∨ nw = 35) ∧ (EL c nw P) ∧ (GV P) ∧ (c 15 4 = ((MT : Nat) : Int)) ∧ (c 15 5 = ((MA : Nat) : Int)) ∧ ((ML (m_anew P c) P) ∧ (GV P) ∧ ((m_anew P c) 49 38 = ((MT : Nat) : Int)) ∧ ((m_anew P c) 49 39 = ((MA : Nat) : Int)) ∧ (MA ≤ 30) ∧ (SW G (j + 40) mL_law 2308 [some (vf 0), some (vr (0)), some (vr (49)), some (vi (((ii : Nat) : Int)))] [] (S nw nx g, 78 + gn, (m9_anew P MA (m_anew P c))) BL post))) :
    SW G (j + 40) mL_law 2295 [some (vf 0), some (vr (0)), some (vr (49)), some (vi (((ii : Nat) : Int)))] [] (S nw nx g, 78 + gn, c) BL post := by
  refine sw_aload_n (dL_law_32.at 5 rfl) rfl rfl ?_
  refine sw_callV (B' := BL) (As := []) (mc := 0) (ms := 0) (dL_law_32.at 6 rfl) lk_L_287 (S_lt 0 (by decide)) (S_0 nw nx g) rfl rfl (Nat.le_of_ble_eq_true rfl) rfl hB1 hB2 ?_
  refine c_X8_anew (P := P) (T := MT) (A := MA) (j := j + 38) hv.1 hv.2.1 hv.2.2.1 hv.2.2.2.1 hv.2.2.2.2.1 ?_
  replace hv := hv.2.2.2.2.2
  refine sw_aload_n (dL_law_32.at 7 rfl) rfl rfl ?_
  refine sw_callV (B' := BL) (As := []) (mc := 0) (ms := 0) (dL_law_32.at 8 rfl) lk_L_290 (S_lt 49 (by decide)) (S_49 nw nx g) rfl rfl (Nat.le_of_ble_eq_true rfl) rfl hB1 hB2 ?_
  refine c_X9_anew (P := P) (T9 := MT) (A9 := MA) (j := j + 38) hv.1 hv.2.1 hv.2.2.1 hv.2.2.2.1 hv.2.2.2.2.1 ?_
  replace hv := hv.2.2.2.2.2
  refine sw_icmp_same (tgt := 2308) (dL_law_32.at 9 rfl) (by decide) ?_
  exact hv

theorem cs_anew {G : GG} {j nw nx gn : Nat} {g : Nat → Sh} {c : Nat → Nat → Int} {post : Option AV → AM → Prop} {BL : BB} {P : GD} {T : PT} {ln : Nat} {bo : Nat → Nat} {n : Nat} {nb : Nat → Nat} {MT : Nat} {MA : Nat} {ii : Nat} (hG : G.2.1 < 2147483648) (hB1 : BL.1 ≤ BL.2.2.1) (hB2 : BL.2.1 ≤ BL.2.2.2) (hii : ii + 6 ≤ G.2.1) (hv : INV c nw nx P T ln bo n nb MT MA) (K : ∀ c2 : Nat → Nat → Int, EMA c2 nw nx P T ln bo n nb → SW G (j + 40) mL_law 2308 [some (vf 0), some (vr (0)), some (vr (49)), some (vi (((ii : Nat) : Int)))] [] (S nw nx g, 78 + gn, c2) BL post) : SW G (j + 40) mL_law 2295 [some (vf 0), some (vr (0)), some (vr (49)), some (vi (((ii : Nat) : Int)))] [] (S nw nx g, 78 + gn, c) BL post := by
  have hv0 := hv
  obtain ⟨hIT, hIP, hIR, hIE, ⟨hwx, hSP, ⟨⟨hV, hC, hDn, hSi⟩, ⟨hOr, hMi, hSp, hBr, hBt⟩, ⟨hLa, hGP, hP0, hHT⟩, hMv⟩, hbo, hbl, hE, hM, hln⟩, ⟨hPR, hCR, hRR⟩, hIM⟩ := hv
  have hIM0 := hIM
  obtain ⟨⟨hMT60, hMA30, hMA0, hMf, hMs⟩, ⟨hM1, hM2, hM3, hM4⟩, hM5, hM6⟩ := hIM
  have hnw : nw = 21 ∨ nw = 35 := by omega
  have hRb := hC.1.1
  have hLn := hC.1.2
  have hLn2 : ∀ s, s < gR P → s + 1 < gN P := hC.1.2
  refine g_law_anew (P := P) (T := T) (MT := MT) (MA := MA) hG hB1 hB2 ?_
  refine ⟨?_, ?_, ?_, ?_, ?_, ⟨?_, ?_, ?_, ?_, ?_, ?_⟩⟩
  all_goals first | assumption | omega | exact i32rng _ | exact ML_row hM (fun a ha hb => m_anew_off _ _ a (by omega)) | exact RR_row hRR (fun a ha hb => m_anew_off _ _ a (by omega)) | (rw [m_anew_off _ _ 49 (by omega)]; assumption) | exact K _ (INV_anew hv0)

set_option maxHeartbeats 2000000 in
set_option maxRecDepth 20000 in
theorem g_law_image {G : GG} {j nw nx gn : Nat} {g : Nat → Sh} {c : Nat → Nat → Int} {post : Option AV → AM → Prop} {BL : BB} {P : GD} {T : PT} {MT : Nat} {MA : Nat} {ii : Nat} (hG : G.2.1 < 2147483648) (hB1 : BL.1 ≤ BL.2.2.1) (hB2 : BL.2.1 ≤ BL.2.2.2)  (hv : (0 ≤ ((ii + 1 : Nat) : Int)) ∧ (((ii + 1 : Nat) : Int) < (G.2.1 : Int)) ∧ ((nw = 21 ∨ nw = 35) ∧ (EL c nw P) ∧ (GV P) ∧ (c 15 4 = ((MT : Nat) : Int)) ∧ (c 15 5 = ((MA : Nat) : Int)) ∧ (MA ≤ 30) ∧ (-2147483648 ≤ ((G.2.2 (((ii + 1 : Nat) : Int).toNat)).toInt) ∧ ((G.2.2 (((ii + 1 : Nat) : Int).toNat)).toInt) < 2147483648) ∧ ((0 ≤ ((ii + 1 : Nat) : Int)) ∧ (((ii + 1 : Nat) : Int) < (G.2.1 : Int)) ∧ ((ML (m_image P MA ((G.2.2 (((ii + 1 : Nat) : Int).toNat)).toInt) c) P) ∧ (GV P) ∧ ((m_image P MA ((G.2.2 (((ii + 1 : Nat) : Int).toNat)).toInt) c) 49 38 = ((MT : Nat) : Int)) ∧ ((m_image P MA ((G.2.2 (((ii + 1 : Nat) : Int).toNat)).toInt) c) 49 39 = ((MA : Nat) : Int)) ∧ (-2147483648 ≤ ((G.2.2 (((ii + 1 : Nat) : Int).toNat)).toInt) ∧ ((G.2.2 (((ii + 1 : Nat) : Int).toNat)).toInt) < 2147483648) ∧ (SW G (j + 40) mL_law 2308 [some (vf 0), some (vr (0)), some (vr (49)), some (vi (((ii : Nat) : Int)))] [] (S nw nx g, 78 + gn, (m9_image P MT MA ((G.2.2 (((ii + 1 : Nat) : Int).toNat)).toInt) (m_image P MA ((G.2.2 (((ii + 1 : Nat) : Int).toNat)).toInt) c))) BL post))))) :
    SW G (j + 40) mL_law 2236 [some (vf 0), some (vr (0)), some (vr (49)), some (vi (((ii : Nat) : Int)))] [] (S nw nx g, 78 + gn, c) BL post := by
  refine sw_aload_n (dL_law_31.at 14 rfl) rfl rfl ?_
  refine sw_aload_nf (dL_law_31.at 15 rfl) rfl rfl ?_
  refine sw_iload_n (dL_law_31.at 16 rfl) rfl rfl ?_
  refine sw_iconst (dL_law_31.at 17 rfl) ?_
  refine sw_iadd (dL_law_31.at 18 rfl) ?_
  refine sw_topI (y := ((ii + 1 : Nat) : Int)) (by first | rfl | (congr 1)) ?_
  refine sw_sld (dL_law_31.at 19 rfl) hG hv.1 hv.2.1 ?_
  replace hv := hv.2.2
  refine sw_callV (B' := BL) (As := [vi ((G.2.2 (((ii + 1 : Nat) : Int).toNat)).toInt)]) (mc := 0) (ms := 0) (dL_law_31.at 20 rfl) lk_L_275 (S_lt 0 (by decide)) (S_0 nw nx g) rfl rfl (Nat.le_of_ble_eq_true rfl) rfl hB1 hB2 ?_
  refine c_X8_image (x := ((G.2.2 (((ii + 1 : Nat) : Int).toNat)).toInt)) (P := P) (T := MT) (A := MA) (j := j + 38) hv.1 hv.2.1 hv.2.2.1 hv.2.2.2.1 hv.2.2.2.2.1 hv.2.2.2.2.2.1 hv.2.2.2.2.2.2.1 ?_
  replace hv := hv.2.2.2.2.2.2.2
  refine sw_aload_n (dL_law_31.at 21 rfl) rfl rfl ?_
  refine sw_aload_nf (dL_law_31.at 22 rfl) rfl rfl ?_
  refine sw_iload_n (dL_law_31.at 23 rfl) rfl rfl ?_
  refine sw_iconst (dL_law_31.at 24 rfl) ?_
  refine sw_iadd (dL_law_31.at 25 rfl) ?_
  refine sw_topI (y := ((ii + 1 : Nat) : Int)) (by first | rfl | (congr 1)) ?_
  refine sw_sld (dL_law_31.at 26 rfl) hG hv.1 hv.2.1 ?_
  replace hv := hv.2.2
  refine sw_callV (B' := BL) (As := [vi ((G.2.2 (((ii + 1 : Nat) : Int).toNat)).toInt)]) (mc := 0) (ms := 0) (dL_law_31.at 27 rfl) lk_L_278 (S_lt 49 (by decide)) (S_49 nw nx g) rfl rfl (Nat.le_of_ble_eq_true rfl) rfl hB1 hB2 ?_
  refine c_X9_image (x := ((G.2.2 (((ii + 1 : Nat) : Int).toNat)).toInt)) (P := P) (T9 := MT) (A9 := MA) (j := j + 38) hv.1 hv.2.1 hv.2.2.1 hv.2.2.2.1 hv.2.2.2.2.1 ?_
  replace hv := hv.2.2.2.2.2
  refine sw_icmp_same (tgt := 2308) (dL_law_31.at 28 rfl) (by decide) ?_
  exact hv

theorem cs_image {G : GG} {j nw nx gn : Nat} {g : Nat → Sh} {c : Nat → Nat → Int} {post : Option AV → AM → Prop} {BL : BB} {P : GD} {T : PT} {ln : Nat} {bo : Nat → Nat} {n : Nat} {nb : Nat → Nat} {MT : Nat} {MA : Nat} {ii : Nat} (hG : G.2.1 < 2147483648) (hB1 : BL.1 ≤ BL.2.2.1) (hB2 : BL.2.1 ≤ BL.2.2.2) (hii : ii + 6 ≤ G.2.1) (hv : INV c nw nx P T ln bo n nb MT MA) (K : ∀ c2 : Nat → Nat → Int, EMA c2 nw nx P T ln bo n nb → SW G (j + 40) mL_law 2308 [some (vf 0), some (vr (0)), some (vr (49)), some (vi (((ii : Nat) : Int)))] [] (S nw nx g, 78 + gn, c2) BL post) : SW G (j + 40) mL_law 2236 [some (vf 0), some (vr (0)), some (vr (49)), some (vi (((ii : Nat) : Int)))] [] (S nw nx g, 78 + gn, c) BL post := by
  have hv0 := hv
  obtain ⟨hIT, hIP, hIR, hIE, ⟨hwx, hSP, ⟨⟨hV, hC, hDn, hSi⟩, ⟨hOr, hMi, hSp, hBr, hBt⟩, ⟨hLa, hGP, hP0, hHT⟩, hMv⟩, hbo, hbl, hE, hM, hln⟩, ⟨hPR, hCR, hRR⟩, hIM⟩ := hv
  have hIM0 := hIM
  obtain ⟨⟨hMT60, hMA30, hMA0, hMf, hMs⟩, ⟨hM1, hM2, hM3, hM4⟩, hM5, hM6⟩ := hIM
  have hnw : nw = 21 ∨ nw = 35 := by omega
  have hRb := hC.1.1
  have hLn := hC.1.2
  have hLn2 : ∀ s, s < gR P → s + 1 < gN P := hC.1.2
  refine g_law_image (P := P) (T := T) (MT := MT) (MA := MA) hG hB1 hB2 ?_
  refine ⟨?_, ?_, ⟨?_, ?_, ?_, ?_, ?_, ?_, ?_, ⟨?_, ?_, ⟨?_, ?_, ?_, ?_, ?_, ?_⟩⟩⟩⟩
  all_goals first | assumption | omega | exact i32rng _ | exact ML_row hM (fun a ha hb => m_image_off _ _ _ _ a (by omega)) | exact RR_row hRR (fun a ha hb => m_image_off _ _ _ _ a (by omega)) | (rw [m_image_off _ _ _ _ 49 (by omega)]; assumption) | exact K _ (INV_image hv0 _)

set_option maxHeartbeats 2000000 in
set_option maxRecDepth 20000 in
theorem g_law_back {G : GG} {j nw nx gn : Nat} {g : Nat → Sh} {c : Nat → Nat → Int} {post : Option AV → AM → Prop} {BL : BB} {P : GD} {T : PT} {MT : Nat} {MA : Nat} {ii : Nat} (hG : G.2.1 < 2147483648) (hB1 : BL.1 ≤ BL.2.2.1) (hB2 : BL.2.1 ≤ BL.2.2.2)  (hv : (0 ≤ ((ii + 1 : Nat) : Int)) ∧ (((ii + 1 : Nat) : Int) < (G.2.1 : Int)) ∧ ((nw = 21 ∨ nw = 35) ∧ (EL c nw P) ∧ (GV P) ∧ (c 15 4 = ((MT : Nat) : Int)) ∧ (c 15 5 = ((MA : Nat) : Int)) ∧ (0 ≤ ((G.2.2 (((ii + 1 : Nat) : Int).toNat)).toInt) → ((G.2.2 (((ii + 1 : Nat) : Int).toNat)).toInt) < 3 → c 19 ((G.2.2 (((ii + 1 : Nat) : Int).toNat)).toInt).toNat = (bkI c ((G.2.2 (((ii + 1 : Nat) : Int).toNat)).toInt)) ∧ -1 ≤ (bkI c ((G.2.2 (((ii + 1 : Nat) : Int).toNat)).toInt)) ∧ (bkI c ((G.2.2 (((ii + 1 : Nat) : Int).toNat)).toInt)) ≤ 30) ∧ (-2147483648 ≤ ((G.2.2 (((ii + 1 : Nat) : Int).toNat)).toInt) ∧ ((G.2.2 (((ii + 1 : Nat) : Int).toNat)).toInt) < 2147483648) ∧ ((0 ≤ ((ii + 1 : Nat) : Int)) ∧ (((ii + 1 : Nat) : Int) < (G.2.1 : Int)) ∧ ((ML (m_back P ((G.2.2 (((ii + 1 : Nat) : Int).toNat)).toInt) (bkI c ((G.2.2 (((ii + 1 : Nat) : Int).toNat)).toInt)) c) P) ∧ (GV P) ∧ ((m_back P ((G.2.2 (((ii + 1 : Nat) : Int).toNat)).toInt) (bkI c ((G.2.2 (((ii + 1 : Nat) : Int).toNat)).toInt)) c) 49 38 = ((MT : Nat) : Int)) ∧ ((m_back P ((G.2.2 (((ii + 1 : Nat) : Int).toNat)).toInt) (bkI c ((G.2.2 (((ii + 1 : Nat) : Int).toNat)).toInt)) c) 49 39 = ((MA : Nat) : Int)) ∧ (0 ≤ ((G.2.2 (((ii + 1 : Nat) : Int).toNat)).toInt) → ((G.2.2 (((ii + 1 : Nat) : Int).toNat)).toInt) < 3 → (m_back P ((G.2.2 (((ii + 1 : Nat) : Int).toNat)).toInt) (bkI c ((G.2.2 (((ii + 1 : Nat) : Int).toNat)).toInt)) c) 77 ((G.2.2 (((ii + 1 : Nat) : Int).toNat)).toInt).toNat = (bkH c ((G.2.2 (((ii + 1 : Nat) : Int).toNat)).toInt)) ∧ ((bkH c ((G.2.2 (((ii + 1 : Nat) : Int).toNat)).toInt)) = 0 ∨ (bkH c ((G.2.2 (((ii + 1 : Nat) : Int).toNat)).toInt)) = 1)) ∧ ((bkI c ((G.2.2 (((ii + 1 : Nat) : Int).toNat)).toInt)) = -1 ↔ ¬ (bkH c ((G.2.2 (((ii + 1 : Nat) : Int).toNat)).toInt)) = 1) ∧ (-2147483648 ≤ ((G.2.2 (((ii + 1 : Nat) : Int).toNat)).toInt) ∧ ((G.2.2 (((ii + 1 : Nat) : Int).toNat)).toInt) < 2147483648) ∧ (SW G (j + 40) mL_law 2308 [some (vf 0), some (vr (0)), some (vr (49)), some (vi (((ii : Nat) : Int)))] [] (S nw nx g, 78 + gn, (m9_back P ((G.2.2 (((ii + 1 : Nat) : Int).toNat)).toInt) (bkH c ((G.2.2 (((ii + 1 : Nat) : Int).toNat)).toInt)) (m_back P ((G.2.2 (((ii + 1 : Nat) : Int).toNat)).toInt) (bkI c ((G.2.2 (((ii + 1 : Nat) : Int).toNat)).toInt)) c))) BL post))))) :
    SW G (j + 40) mL_law 2259 [some (vf 0), some (vr (0)), some (vr (49)), some (vi (((ii : Nat) : Int)))] [] (S nw nx g, 78 + gn, c) BL post := by
  refine sw_aload_n (dL_law_31.at 31 rfl) rfl rfl ?_
  refine sw_aload_nf (dL_law_31.at 32 rfl) rfl rfl ?_
  refine sw_iload_n (dL_law_31.at 33 rfl) rfl rfl ?_
  refine sw_iconst (dL_law_31.at 34 rfl) ?_
  refine sw_iadd (dL_law_31.at 35 rfl) ?_
  refine sw_topI (y := ((ii + 1 : Nat) : Int)) (by first | rfl | (congr 1)) ?_
  refine sw_sld (dL_law_31.at 36 rfl) hG hv.1 hv.2.1 ?_
  replace hv := hv.2.2
  refine sw_callV (B' := BL) (As := [vi ((G.2.2 (((ii + 1 : Nat) : Int).toNat)).toInt)]) (mc := 0) (ms := 0) (dL_law_31.at 37 rfl) lk_L_279 (S_lt 0 (by decide)) (S_0 nw nx g) rfl rfl (Nat.le_of_ble_eq_true rfl) rfl hB1 hB2 ?_
  refine c_X8_back (x := ((G.2.2 (((ii + 1 : Nat) : Int).toNat)).toInt)) (P := P) (T := MT) (A := MA) (I := (bkI c ((G.2.2 (((ii + 1 : Nat) : Int).toNat)).toInt))) (j := j + 38) hv.1 hv.2.1 hv.2.2.1 hv.2.2.2.1 hv.2.2.2.2.1 hv.2.2.2.2.2.1 hv.2.2.2.2.2.2.1 ?_
  replace hv := hv.2.2.2.2.2.2.2
  refine sw_aload_n (dL_law_31.at 38 rfl) rfl rfl ?_
  refine sw_aload_nf (dL_law_31.at 39 rfl) rfl rfl ?_
  refine sw_iload_n (dL_law_31.at 40 rfl) rfl rfl ?_
  refine sw_iconst (dL_law_31.at 41 rfl) ?_
  refine sw_iadd (dL_law_31.at 42 rfl) ?_
  refine sw_topI (y := ((ii + 1 : Nat) : Int)) (by first | rfl | (congr 1)) ?_
  refine sw_sld (dL_law_31.at 43 rfl) hG hv.1 hv.2.1 ?_
  replace hv := hv.2.2
  refine sw_callV (B' := BL) (As := [vi ((G.2.2 (((ii + 1 : Nat) : Int).toNat)).toInt)]) (mc := 0) (ms := 0) (dL_law_31.at 44 rfl) lk_L_282 (S_lt 49 (by decide)) (S_49 nw nx g) rfl rfl (Nat.le_of_ble_eq_true rfl) rfl hB1 hB2 ?_
  refine c9_back (x := ((G.2.2 (((ii + 1 : Nat) : Int).toNat)).toInt)) (P := P) (T9 := MT) (A9 := MA) (I := (bkI c ((G.2.2 (((ii + 1 : Nat) : Int).toNat)).toInt))) (h := (bkH c ((G.2.2 (((ii + 1 : Nat) : Int).toNat)).toInt))) (j := j + 38) hv.1 hv.2.1 hv.2.2.1 hv.2.2.2.1 hv.2.2.2.2.1 hv.2.2.2.2.2.1 hv.2.2.2.2.2.2.1 ?_
  replace hv := hv.2.2.2.2.2.2.2
  refine sw_icmp_same (tgt := 2308) (dL_law_31.at 45 rfl) (by decide) ?_
  exact hv

theorem cs_back {G : GG} {j nw nx gn : Nat} {g : Nat → Sh} {c : Nat → Nat → Int} {post : Option AV → AM → Prop} {BL : BB} {P : GD} {T : PT} {ln : Nat} {bo : Nat → Nat} {n : Nat} {nb : Nat → Nat} {MT : Nat} {MA : Nat} {ii : Nat} (hG : G.2.1 < 2147483648) (hB1 : BL.1 ≤ BL.2.2.1) (hB2 : BL.2.1 ≤ BL.2.2.2) (hii : ii + 6 ≤ G.2.1) (hv : INV c nw nx P T ln bo n nb MT MA) (K : ∀ c2 : Nat → Nat → Int, EMA c2 nw nx P T ln bo n nb → SW G (j + 40) mL_law 2308 [some (vf 0), some (vr (0)), some (vr (49)), some (vi (((ii : Nat) : Int)))] [] (S nw nx g, 78 + gn, c2) BL post) : SW G (j + 40) mL_law 2259 [some (vf 0), some (vr (0)), some (vr (49)), some (vi (((ii : Nat) : Int)))] [] (S nw nx g, 78 + gn, c) BL post := by
  have hv0 := hv
  obtain ⟨hIT, hIP, hIR, hIE, ⟨hwx, hSP, ⟨⟨hV, hC, hDn, hSi⟩, ⟨hOr, hMi, hSp, hBr, hBt⟩, ⟨hLa, hGP, hP0, hHT⟩, hMv⟩, hbo, hbl, hE, hM, hln⟩, ⟨hPR, hCR, hRR⟩, hIM⟩ := hv
  have hIM0 := hIM
  obtain ⟨⟨hMT60, hMA30, hMA0, hMf, hMs⟩, ⟨hM1, hM2, hM3, hM4⟩, hM5, hM6⟩ := hIM
  have hnw : nw = 21 ∨ nw = 35 := by omega
  have hRb := hC.1.1
  have hLn := hC.1.2
  have hLn2 : ∀ s, s < gR P → s + 1 < gN P := hC.1.2
  refine g_law_back (P := P) (T := T) (MT := MT) (MA := MA) hG hB1 hB2 ?_
  refine ⟨?_, ?_, ⟨?_, ?_, ?_, ?_, ?_, ?_, ?_, ⟨?_, ?_, ⟨?_, ?_, ?_, ?_, ?_, ?_, ?_, ?_⟩⟩⟩⟩
  all_goals first | assumption | omega | exact i32rng _ | exact bk_1 hIM0 _ | exact bk_3 hIM0 _ | (rw [m_back_off _ _ _ _ 77 (by omega)]; exact bk_2 hIM0 _) | exact ML_row hM (fun a ha hb => m_back_off _ _ _ _ a (by omega)) | exact RR_row hRR (fun a ha hb => m_back_off _ _ _ _ a (by omega)) | (rw [m_back_off _ _ _ _ 49 (by omega)]; assumption) | exact K _ (INV_back hv0 _)

set_option maxHeartbeats 2000000 in
set_option maxRecDepth 20000 in
theorem g_law_fault {G : GG} {j nw nx gn : Nat} {g : Nat → Sh} {c : Nat → Nat → Int} {post : Option AV → AM → Prop} {BL : BB} {ii : Nat} (hG : G.2.1 < 2147483648) (hB1 : BL.1 ≤ BL.2.2.1) (hB2 : BL.2.1 ≤ BL.2.2.2)  (hv : (0 ≤ ((ii + 1 : Nat) : Int)) ∧ (((ii + 1 : Nat) : Int) < (G.2.1 : Int)) ∧ ((-2147483648 ≤ ((G.2.2 (((ii + 1 : Nat) : Int).toNat)).toInt) ∧ ((G.2.2 (((ii + 1 : Nat) : Int).toNat)).toInt) < 2147483648) ∧ ((0 ≤ ((ii + 1 : Nat) : Int)) ∧ (((ii + 1 : Nat) : Int) < (G.2.1 : Int)) ∧ ((c 3 3 = c 49 2 ∧ c 3 4 = c 49 3) ∧ (-2147483648 ≤ ((G.2.2 (((ii + 1 : Nat) : Int).toNat)).toInt) ∧ ((G.2.2 (((ii + 1 : Nat) : Int).toNat)).toInt) < 2147483648) ∧ (SW G (j + 40) mL_law 2308 [some (vf 0), some (vr (0)), some (vr (49)), some (vi (((ii : Nat) : Int)))] [] (S nw nx g, 78 + gn, c) BL post))))) :
    SW G (j + 40) mL_law 415 [some (vf 0), some (vr (0)), some (vr (49)), some (vi (((ii : Nat) : Int)))] [] (S nw nx g, 78 + gn, c) BL post := by
  refine sw_aload_n (dL_law_2.at 3 rfl) rfl rfl ?_
  refine sw_aload_nf (dL_law_2.at 4 rfl) rfl rfl ?_
  refine sw_iload_n (dL_law_2.at 5 rfl) rfl rfl ?_
  refine sw_iconst (dL_law_2.at 6 rfl) ?_
  refine sw_iadd (dL_law_2.at 7 rfl) ?_
  refine sw_topI (y := ((ii + 1 : Nat) : Int)) (by first | rfl | (congr 1)) ?_
  refine sw_sld (dL_law_2.at 8 rfl) hG hv.1 hv.2.1 ?_
  replace hv := hv.2.2
  refine sw_callV (B' := BL) (As := [vi ((G.2.2 (((ii + 1 : Nat) : Int).toNat)).toInt)]) (mc := 0) (ms := 0) (dL_law_2.at 9 rfl) lk_L_28 (S_lt 0 (by decide)) (S_0 nw nx g) rfl rfl (Nat.le_of_ble_eq_true rfl) rfl hB1 hB2 ?_
  refine c_X8_fault (x := ((G.2.2 (((ii + 1 : Nat) : Int).toNat)).toInt)) (j := j + 39) hv.1 ?_
  replace hv := hv.2
  refine sw_aload_n (dL_law_2.at 10 rfl) rfl rfl ?_
  refine sw_aload_nf (dL_law_2.at 11 rfl) rfl rfl ?_
  refine sw_iload_n (dL_law_2.at 12 rfl) rfl rfl ?_
  refine sw_iconst (dL_law_2.at 13 rfl) ?_
  refine sw_iadd (dL_law_2.at 14 rfl) ?_
  refine sw_topI (y := ((ii + 1 : Nat) : Int)) (by first | rfl | (congr 1)) ?_
  refine sw_sld (dL_law_2.at 15 rfl) hG hv.1 hv.2.1 ?_
  replace hv := hv.2.2
  refine sw_callV (B' := BL) (As := [vi ((G.2.2 (((ii + 1 : Nat) : Int).toNat)).toInt)]) (mc := 0) (ms := 0) (dL_law_2.at 16 rfl) lk_L_31 (S_lt 49 (by decide)) (S_49 nw nx g) rfl rfl (Nat.le_of_ble_eq_true rfl) rfl hB1 hB2 ?_
  refine c9_fault (x := ((G.2.2 (((ii + 1 : Nat) : Int).toNat)).toInt)) (j := j + 39) hv.1 hv.2.1 ?_
  replace hv := hv.2.2
  refine sw_icmp_same (tgt := 2308) (dL_law_2.at 17 rfl) (by decide) ?_
  exact hv

theorem cs_fault {G : GG} {j nw nx gn : Nat} {g : Nat → Sh} {c : Nat → Nat → Int} {post : Option AV → AM → Prop} {BL : BB} {P : GD} {T : PT} {ln : Nat} {bo : Nat → Nat} {n : Nat} {nb : Nat → Nat} {MT : Nat} {MA : Nat} {ii : Nat} (hG : G.2.1 < 2147483648) (hB1 : BL.1 ≤ BL.2.2.1) (hB2 : BL.2.1 ≤ BL.2.2.2) (hii : ii + 6 ≤ G.2.1) (hv : INV c nw nx P T ln bo n nb MT MA) (K : ∀ c2 : Nat → Nat → Int, EMA c2 nw nx P T ln bo n nb → SW G (j + 40) mL_law 2308 [some (vf 0), some (vr (0)), some (vr (49)), some (vi (((ii : Nat) : Int)))] [] (S nw nx g, 78 + gn, c2) BL post) : SW G (j + 40) mL_law 415 [some (vf 0), some (vr (0)), some (vr (49)), some (vi (((ii : Nat) : Int)))] [] (S nw nx g, 78 + gn, c) BL post := by
  have hv0 := hv
  obtain ⟨hIT, hIP, hIR, hIE, ⟨hwx, hSP, ⟨⟨hV, hC, hDn, hSi⟩, ⟨hOr, hMi, hSp, hBr, hBt⟩, ⟨hLa, hGP, hP0, hHT⟩, hMv⟩, hbo, hbl, hE, hM, hln⟩, ⟨hPR, hCR, hRR⟩, hIM⟩ := hv
  have hIM0 := hIM
  obtain ⟨⟨hMT60, hMA30, hMA0, hMf, hMs⟩, ⟨hM1, hM2, hM3, hM4⟩, hM5, hM6⟩ := hIM
  have hnw : nw = 21 ∨ nw = 35 := by omega
  have hRb := hC.1.1
  have hLn := hC.1.2
  have hLn2 : ∀ s, s < gR P → s + 1 < gN P := hC.1.2
  refine g_law_fault  hG hB1 hB2 ?_
  refine ⟨?_, ?_, ⟨?_, ⟨?_, ?_, ⟨?_, ?_, ?_⟩⟩⟩⟩
  all_goals first | assumption | omega | exact i32rng _ | exact hIP.2 | exact ML_row hM (fun a ha hb => m_anew_off _ _ a (by omega)) | exact RR_row hRR (fun a ha hb => m_anew_off _ _ a (by omega)) | (rw [m_anew_off _ _ 49 (by omega)]; assumption) | exact K _ (⟨_, _, hv0⟩)

set_option maxHeartbeats 2000000 in
set_option maxRecDepth 20000 in
theorem g_law_count {G : GG} {j nw nx gn : Nat} {g : Nat → Sh} {c : Nat → Nat → Int} {post : Option AV → AM → Prop} {BL : BB} {P : GD} {ii : Nat} (hG : G.2.1 < 2147483648) (hB1 : BL.1 ≤ BL.2.2.1) (hB2 : BL.2.1 ≤ BL.2.2.2)  (hv : (0 ≤ ((ii + 1 : Nat) : Int)) ∧ (((ii + 1 : Nat) : Int) < (G.2.1 : Int)) ∧ ((nw = 21 ∨ nw = 35) ∧ (EL c nw P) ∧ (GV P) ∧ (-2147483648 ≤ ((G.2.2 (((ii + 1 : Nat) : Int).toNat)).toInt) ∧ ((G.2.2 (((ii + 1 : Nat) : Int).toNat)).toInt) < 2147483648) ∧ ((0 ≤ ((ii + 1 : Nat) : Int)) ∧ (((ii + 1 : Nat) : Int) < (G.2.1 : Int)) ∧ ((ML c P) ∧ (GV P) ∧ (c 0 10 = c 49 5 ∧ c 15 5 = c 49 39 ∧ c 1 1 = c 49 1) ∧ (-2147483648 ≤ ((G.2.2 (((ii + 1 : Nat) : Int).toNat)).toInt) ∧ ((G.2.2 (((ii + 1 : Nat) : Int).toNat)).toInt) < 2147483648) ∧ (SW G (j + 40) mL_law 2308 [some (vf 0), some (vr (0)), some (vr (49)), some (vi (((ii : Nat) : Int)))] [] (S nw nx g, 78 + gn, c) BL post))))) :
    SW G (j + 40) mL_law 438 [some (vf 0), some (vr (0)), some (vr (49)), some (vi (((ii : Nat) : Int)))] [] (S nw nx g, 78 + gn, c) BL post := by
  refine sw_aload_n (dL_law_2.at 20 rfl) rfl rfl ?_
  refine sw_aload_nf (dL_law_2.at 21 rfl) rfl rfl ?_
  refine sw_iload_n (dL_law_2.at 22 rfl) rfl rfl ?_
  refine sw_iconst (dL_law_2.at 23 rfl) ?_
  refine sw_iadd (dL_law_2.at 24 rfl) ?_
  refine sw_topI (y := ((ii + 1 : Nat) : Int)) (by first | rfl | (congr 1)) ?_
  refine sw_sld (dL_law_2.at 25 rfl) hG hv.1 hv.2.1 ?_
  replace hv := hv.2.2
  refine sw_callV (B' := BL) (As := [vi ((G.2.2 (((ii + 1 : Nat) : Int).toNat)).toInt)]) (mc := 0) (ms := 0) (dL_law_2.at 26 rfl) lk_L_32 (S_lt 0 (by decide)) (S_0 nw nx g) rfl rfl (Nat.le_of_ble_eq_true rfl) rfl hB1 hB2 ?_
  refine c_X8_count (x := ((G.2.2 (((ii + 1 : Nat) : Int).toNat)).toInt)) (P := P) (j := j + 38) hv.1 hv.2.1 hv.2.2.1 hv.2.2.2.1 ?_
  replace hv := hv.2.2.2.2
  refine sw_aload_n (dL_law_2.at 27 rfl) rfl rfl ?_
  refine sw_aload_nf (dL_law_2.at 28 rfl) rfl rfl ?_
  refine sw_iload_n (dL_law_2.at 29 rfl) rfl rfl ?_
  refine sw_iconst (dL_law_2.at 30 rfl) ?_
  refine sw_iadd (dL_law_2.at 31 rfl) ?_
  refine sw_topI (y := ((ii + 1 : Nat) : Int)) (by first | rfl | (congr 1)) ?_
  refine sw_sld (dL_law_2.at 32 rfl) hG hv.1 hv.2.1 ?_
  replace hv := hv.2.2
  refine sw_callV (B' := BL) (As := [vi ((G.2.2 (((ii + 1 : Nat) : Int).toNat)).toInt)]) (mc := 0) (ms := 0) (dL_law_2.at 33 rfl) lk_L_35 (S_lt 49 (by decide)) (S_49 nw nx g) rfl rfl (Nat.le_of_ble_eq_true rfl) rfl hB1 hB2 ?_
  refine c9_count (x := ((G.2.2 (((ii + 1 : Nat) : Int).toNat)).toInt)) (P := P) (j := j + 38) hv.1 hv.2.1 hv.2.2.1 hv.2.2.2.1 ?_
  replace hv := hv.2.2.2.2
  refine sw_icmp_same (tgt := 2308) (dL_law_2.at 34 rfl) (by decide) ?_
  exact hv

theorem cs_count {G : GG} {j nw nx gn : Nat} {g : Nat → Sh} {c : Nat → Nat → Int} {post : Option AV → AM → Prop} {BL : BB} {P : GD} {T : PT} {ln : Nat} {bo : Nat → Nat} {n : Nat} {nb : Nat → Nat} {MT : Nat} {MA : Nat} {ii : Nat} (hG : G.2.1 < 2147483648) (hB1 : BL.1 ≤ BL.2.2.1) (hB2 : BL.2.1 ≤ BL.2.2.2) (hii : ii + 6 ≤ G.2.1) (hv : INV c nw nx P T ln bo n nb MT MA) (K : ∀ c2 : Nat → Nat → Int, EMA c2 nw nx P T ln bo n nb → SW G (j + 40) mL_law 2308 [some (vf 0), some (vr (0)), some (vr (49)), some (vi (((ii : Nat) : Int)))] [] (S nw nx g, 78 + gn, c2) BL post) : SW G (j + 40) mL_law 438 [some (vf 0), some (vr (0)), some (vr (49)), some (vi (((ii : Nat) : Int)))] [] (S nw nx g, 78 + gn, c) BL post := by
  have hv0 := hv
  obtain ⟨hIT, hIP, hIR, hIE, ⟨hwx, hSP, ⟨⟨hV, hC, hDn, hSi⟩, ⟨hOr, hMi, hSp, hBr, hBt⟩, ⟨hLa, hGP, hP0, hHT⟩, hMv⟩, hbo, hbl, hE, hM, hln⟩, ⟨hPR, hCR, hRR⟩, hIM⟩ := hv
  have hIM0 := hIM
  obtain ⟨⟨hMT60, hMA30, hMA0, hMf, hMs⟩, ⟨hM1, hM2, hM3, hM4⟩, hM5, hM6⟩ := hIM
  have hnw : nw = 21 ∨ nw = 35 := by omega
  have hRb := hC.1.1
  have hLn := hC.1.2
  have hLn2 : ∀ s, s < gR P → s + 1 < gN P := hC.1.2
  refine g_law_count (P := P) hG hB1 hB2 ?_
  refine ⟨?_, ?_, ⟨?_, ?_, ?_, ?_, ⟨?_, ?_, ⟨?_, ?_, ?_, ?_, ?_⟩⟩⟩⟩
  all_goals first | assumption | omega | exact i32rng _ | exact ⟨hln.trans (by obtain ⟨⟨_, _, _, _, _, _, _, _, r_, _⟩, _⟩ := hIR; exact r_.2.2.2.2.2.2.2.2.symm), hM2.trans hM4.symm, hIT.1.1.trans hIT.1.2.1.symm⟩ | exact ML_row hM (fun a ha hb => m_anew_off _ _ a (by omega)) | exact RR_row hRR (fun a ha hb => m_anew_off _ _ a (by omega)) | (rw [m_anew_off _ _ 49 (by omega)]; assumption) | exact K _ (⟨_, _, hv0⟩)

