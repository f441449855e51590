theorem pm_of {c : Nat → Nat → Int} {tk tf tt rr ll ff : Nat} {pl : Int} {bd : Nat → Nat} (h1 : c 1 2 = (tk : Int) ∧ c 1 3 = (tf : Int) ∧ c 1 4 = (tt : Int)) (h2 : c 3 1 = (rr : Int) ∧ c 3 2 = (ll : Int) ∧ c 3 3 = (ff : Int)) (h3 : c 3 4 = pl) (h4 : ∀ i, i < 25 → c 4 i = ((bd i : Nat) : Int)) : c = pm c tk tf tt rr ll ff pl bd := by
  obtain ⟨a1, a2, a3⟩ := h1
  obtain ⟨b1, b2, b3⟩ := h2
  funext a i
  by_cases q1 : a = 1
  · subst q1
    show c 1 i = (if i = 2 then (tk : Int) else if i = 3 then (tf : Int) else if i = 4 then (tt : Int) else c 1 i)
    (repeat' split) <;> first | (rename_i hi; rw [hi]; assumption) | rfl
  · by_cases q2 : a = 3
    · subst q2
      show c 3 i = (if i = 1 then (rr : Int) else if i = 2 then (ll : Int) else if i = 3 then (ff : Int) else if i = 4 then pl else c 3 i)
      (repeat' split) <;> first | (rename_i hi; rw [hi]; assumption) | rfl
    · by_cases q3 : a = 4
      · subst q3
        show c 4 i = (if i < 25 then ((bd i : Nat) : Int) else c 4 i)
        split
        · exact h4 i (by assumption)
        · rfl
      · simp [pm, q1, q2, q3]
theorem pm_off {c : Nat → Nat → Int} {tk tf tt rr ll ff : Nat} {pl : Int} {bd : Nat → Nat} {a : Nat} (h1 : a ≠ 1) (h3 : a ≠ 3) (h4 : a ≠ 4) : pm c tk tf tt rr ll ff pl bd a = c a := by
  funext i
  simp [pm, h1, h3, h4]
theorem D1_off {c : Nat → Nat → Int} {tk tf tt rr ll ff : Nat} {pl : Int} {bd : Nat → Nat} {a : Nat} (h1 : a ≠ 1) (h3 : a ≠ 3) (h4 : a ≠ 4) : (up2 (pm c tk tf tt rr ll ff pl bd) 1 1 0) a = c a := by
  rw [up2_off h1, pm_off h1 h3 h4]
/-- the class's memory behind a reading -/
theorem I_P_of {c : Nat → Nat → Int} {tk tf tt rr ll ff : Nat} {pl : Int} {bd : Nat → Nat} {d : Nat → Nat → Int} (e1 : d 1 = (up2 (pm c tk tf tt rr ll ff pl bd) 1 1 0) 1) (e3 : d 3 = (up2 (pm c tk tf tt rr ll ff pl bd) 1 1 0) 3) (e4 : d 4 = (up2 (pm c tk tf tt rr ll ff pl bd) 1 1 0) 4) (f1 : d 49 2 = ((ff : Nat) : Int)) (f2 : d 49 3 = pl) : I_P d := by
  refine ⟨⟨tk, tf, tt, rr, ll, ff, bd, ⟨?_, ?_, ?_⟩, ⟨?_, ?_, ?_⟩, fun i hi => ?_⟩, ?_, ?_⟩
  · rw [e1]; simp [up2, pm]
  · rw [e1]; simp [up2, pm]
  · rw [e1]; simp [up2, pm]
  · rw [e3]; simp [up2, pm]
  · rw [e3]; simp [up2, pm]
  · rw [e3]; simp [up2, pm]
  · rw [e4]; simp [up2, pm, hi]
  · rw [e3, f1]; simp [up2, pm]
  · rw [e3, f2]; simp [up2, pm]
theorem D1_11 {c : Nat → Nat → Int} {tk tf tt rr ll ff : Nat} {pl : Int} {bd : Nat → Nat} : (up2 (pm c tk tf tt rr ll ff pl bd) 1 1 0) 1 1 = 0 := up2_eq _ _ _ _
theorem D2_off {c : Nat → Nat → Int} {bw : Nat → Nat} {ra rb rt rv : Nat} {rz : Bool} {fk : Nat} {fp : Int} {rk ln : Nat} {bo : Nat → Nat} {a : Nat} (h1 : a ≠ 49) (h3 : a ≠ 51) (h4 : a ≠ 52) : (up2 (rm (w52 c bw) ra rb rt rv rz fk fp rk ln bo) 49 1 0) a = c a := by
  rw [up2_off h1]
  funext i
  simp [rm, w52, h1, h3, h4]
theorem D2_49 {c : Nat → Nat → Int} {bw : Nat → Nat} {ra rb rt rv : Nat} {rz : Bool} {fk : Nat} {fp : Int} {rk ln : Nat} {bo : Nat → Nat} {k : Nat} (h : k = 0 ∨ k = 6 ∨ k = 7 ∨ 12 < k) : (up2 (rm (w52 c bw) ra rb rt rv rz fk fp rk ln bo) 49 1 0) 49 k = c 49 k := by
  rw [up2_ne (Or.inr (by omega))]
  have e1 : k ≠ 8 := by omega
  have e2 : k ≠ 9 := by omega
  have e3 : k ≠ 10 := by omega
  have e4 : k ≠ 11 := by omega
  have e5 : k ≠ 12 := by omega
  have e6 : k ≠ 2 := by omega
  have e7 : k ≠ 3 := by omega
  have e8 : k ≠ 4 := by omega
  have e9 : k ≠ 5 := by omega
  simp [rm, w52, e1, e2, e3, e4, e5, e6, e7, e8, e9]
theorem D2_R {c : Nat → Nat → Int} {bw : Nat → Nat} {ra rb rt rv : Nat} {rz : Bool} {fk : Nat} {fp : Int} {rk ln : Nat} {bo : Nat → Nat} : RMc (up2 (rm (w52 c bw) ra rb rt rv rz fk fp rk ln bo) 49 1 0) bw ra rb rt rv rz fk fp rk ln bo := by
  refine ⟨⟨?_, ?_, ?_, ?_, ?_, ?_, ?_, ?_, ?_⟩, fun i hi => ?_, fun i hi => ?_⟩
  · simp [up2, rm]
  · simp [up2, rm]
  · simp [up2, rm]
  · simp [up2, rm]
  · simp [up2, rm]
  · simp [up2, rm]
  · simp [up2, rm]
  · simp [up2, rm]
  · simp [up2, rm]
  · simp [up2, rm, hi]
  · simp [up2, rm, w52, hi]
theorem RMc_row {c : Nat → Nat → Int} {bw : Nat → Nat} {ra rb rt rv : Nat} {rz : Bool} {fk : Nat} {fp : Int} {rk ln : Nat} {bo : Nat → Nat} {d : Nat → Nat → Int} (h : RMc c bw ra rb rt rv rz fk fp rk ln bo) (e49 : d 49 = c 49) (e51 : d 51 = c 51) (e52 : d 52 = c 52) : RMc d bw ra rb rt rv rz fk fp rk ln bo := by
  unfold RMc
  rw [e49, e51, e52]
  exact h

set_option maxHeartbeats 4000000 in
/-- what the reference's reading of an element leaves -/
theorem INV_el {c : Nat → Nat → Int} {nw nx : Nat} {P : GD} {T : PT} {ln : Nat} {bo : Nat → Nat} {n : Nat} {nb : Nat → Nat} {MT MA : Nat} (h : INV c nw nx P T ln bo n nb MT MA) {tk tf tt rr ll ff : Nat} {pl : Int} {bd : Nat → Nat} {bw : Nat → Nat} {ra rb rt rv : Nat} {rz : Bool} : INV (up2 (rm (w52 (up2 (pm c tk tf tt rr ll ff pl bd) 1 1 0) bw) ra rb rt rv rz ff pl (gR P) ln bo) 49 1 0) nw nx P T ln bo 0 nb MT MA := by
  obtain ⟨⟨⟨t1, t2, t3⟩, t4, t5⟩, h2, ⟨_, im, bh, ah, lo, fr, la, bk, mo, sp, mm, nn, tp, hb, ⟨l1, l2, l3, l4⟩, l5⟩, h4, ⟨g1, g2, g3, g4, g5, g6, g7, g8⟩, ⟨q1, q2, q3⟩, h7⟩ := id h
  generalize hd : (up2 (pm c tk tf tt rr ll ff pl bd) 1 1 0) = d
  have o1 : ∀ a, a ≠ 1 → a ≠ 3 → a ≠ 4 → d a = c a := fun a a1 a2 a3 => by rw [← hd]; exact D1_off a1 a2 a3
  have d11 : d 1 1 = 0 := by rw [← hd]; exact D1_11
  generalize hd2 : up2 (rm (w52 d bw) ra rb rt rv rz ff pl (gR P) ln bo) 49 1 0 = d2
  have o2 : ∀ a, a ≠ 49 → a ≠ 51 → a ≠ 52 → d2 a = d a := fun a a1 a2 a3 => by rw [← hd2]; exact D2_off a1 a2 a3
  have o9 : ∀ k, (k = 0 ∨ k = 6 ∨ k = 7 ∨ 12 < k) → d2 49 k = d 49 k := fun k hk => by rw [← hd2]; exact D2_49 hk
  have hR : RMc d2 bw ra rb rt rv rz ff pl (gR P) ln bo := by rw [← hd2]; exact D2_R
  have d491 : d2 49 1 = 0 := by rw [← hd2]; exact up2_eq _ _ _ _
  have r : ∀ a, a ≠ 1 ∧ a ≠ 3 ∧ a ≠ 4 ∧ a ≠ 49 ∧ a ≠ 51 ∧ a ≠ 52 → d2 a = c a := fun a ha => (o2 a (by omega) (by omega) (by omega)).trans (o1 a (by omega) (by omega) (by omega))
  have r9 : ∀ k, 12 < k → d2 49 k = c 49 k := fun k hk => (o9 k (by omega)).trans (by rw [o1 49 (by decide) (by decide) (by decide)])
  obtain ⟨⟨u1, u2, u3, u4, u5, u6, u7, u8, u9⟩, u10, u11⟩ := id hR
  refine INV_all h (fun a ha => r a (by omega)) (fun k hk => r9 k (by omega)) ⟨⟨?_, d491, by decide⟩, t4, fun i hi => ?_⟩ ?_ ?_ ⟨EMk_same h4.1 (fun q hq => r _ (by omega)), EMk_same h4.2 (fun q hq => r _ (by omega))⟩ (EL_same g6 (fun q hq => r _ (by omega))) ?_ ?_
  · rw [o2 1 (by decide) (by decide) (by decide)]; exact d11
  · rw [r 2 (by omega), r 50 (by omega)]; exact t5 i hi
  · exact I_P_of (by rw [o2 1 (by decide) (by decide) (by decide), ← hd]) (by rw [o2 3 (by decide) (by decide) (by decide), ← hd]) (by rw [o2 4 (by decide) (by decide) (by decide), ← hd]) u6 u7
  · refine ⟨⟨_, _, _, _, _, _, _, _, hR⟩, im, bh, ah, lo, fr, la, bk, mo, sp, mm, nn, tp, hb, ⟨?_, ?_, ?_, ?_⟩, fun i => ?_⟩
    · rw [r9 21 (by decide)]; exact l1
    · rw [r9 22 (by decide)]; exact l2
    · rw [r9 23 (by decide)]; exact l3
    · rw [r9 24 (by decide)]; exact l4
    · rw [r 53 (by omega), r 54 (by omega), r 55 (by omega), r 56 (by omega), r 57 (by omega), r 58 (by omega), r 59 (by omega), r 60 (by omega), r 61 (by omega)]; exact l5 i
  · obtain ⟨⟨m1, m2, m3, m4, m5, m6, m7⟩, m8, m9, m10, m11⟩ := g7
    refine ⟨⟨u8, ?_, ?_, ?_, ?_, ?_, ?_⟩, fun s t hs ht => ?_, ?_, ?_, ?_⟩
    · rw [r9 22 (by decide)]; exact m2
    · rw [r9 21 (by decide)]; exact m3
    · rw [r9 23 (by decide)]; exact m4
    · rw [u9]; omega
    · rw [u9]; have := STP_ln g2; omega
    · rw [u9]
      have e : c 49 5 = ((ln : Nat) : Int) := by
        obtain ⟨_, _, ⟨⟨_, _, _, _, _, _, _, _, r_, _⟩, _⟩, _⟩ := id h
        exact r_.2.2.2.2.2.2.2.2
      rw [e] at m7
      exact m7
    · have := STP_R g2
      rw [u10 _ (by omega), g4 s t hs ht]
    · rw [r 56 (by omega), r 57 (by omega), r 58 (by omega), r 59 (by omega)]; exact m9
    · rw [r 54 (by omega), r 55 (by omega)]; exact m10
    · rw [r 60 (by omega)]; exact m11
  · exact RR_r q3 (r9 24 (by decide)) (r 64 (by omega)) (r 65 (by omega)) (r 66 (by omega))
set_option maxHeartbeats 4000000 in
theorem cs_element {G : GG} {j nw nx gn : Nat} {g : Nat → Sh} {c : Nat → Nat → Int} {post : Option AV → AM → Prop} {BL : BB} {P : GD} {T : PT} {ln : Nat} {bo : Nat → Nat} {n : Nat} {nb : Nat → Nat} {MT : Nat} {MA : Nat} {ii : Nat} (hB1 : BL.1 ≤ BL.2.2.1) (hB2 : BL.2.1 ≤ BL.2.2.2) (hv : INV c nw nx P T ln bo n nb MT MA) (K : ∀ c2 : Nat → Nat → Int, ETP c2 nw nx P T ln bo MT MA → SW G (j + 40) mL_law 2308 [some (vf 0), some (vr (0)), some (vr (49)), some (vi (((ii : Nat) : Int)))] [] (S nw nx g, 78 + gn, c2) BL post) : SW G (j + 40) mL_law 550 [some (vf 0), some (vr (0)), some (vr (49)), some (vi (((ii : Nat) : Int)))] [] (S nw nx g, 78 + gn, c) BL post := by
  have hv0 := hv
  obtain ⟨hIT, hIP, hIR, hIE, ⟨hwx, hSP, ⟨⟨hV, hC, hDn, hSi⟩, ⟨hOr, hMi, hSp, hBr, hBt⟩, ⟨hLa, hGP, hP0, hHT⟩, hMv⟩, hbo, hbl, hE, hM, hln⟩, ⟨hPR, hCR, hRR⟩, hIM⟩ := hv
  have hIM0 := hIM
  obtain ⟨⟨hMT60, hMA30, hMA0, hMf, hMs⟩, ⟨hM1, hM2, hM3, hM4⟩, hM5, hM6⟩ := hIM
  have hnw : nw = 21 ∨ nw = 35 := by omega
  have hRb := hC.1.1
  have hLn := hC.1.2
  have hLn2 : ∀ s, s < gR P → s + 1 < gN P := hC.1.2
  obtain ⟨⟨hS1, hS2, hn⟩, hB, hT⟩ := hIT
  obtain ⟨⟨tk, tf, tt, rr, ll, ff, bd, a1, a2, a3⟩, a4, a5⟩ := hIP
  obtain ⟨⟨fk, fp, bw, ra, rb, rt, rv, rz, hRM⟩, _⟩ := hIR
  have ep := pm_of (pl := c 3 4) a1 a2 rfl a3
  have hl2 : 0 < ln ↔ 0 < gN P := by
    have m7 := hM.1.2.2.2.2.2.2
    rw [hRM.1.2.2.2.2.2.2.2.2] at m7
    omega
  have hl1 := STP_ln hSP
  refine sw_aload_n (dL_law_4.at 8 rfl) rfl rfl ?_
  refine SW.cg (congrArg (fun m => (S nw nx g, 78 + gn, m)) ep) ?_
  refine sw_callV (B' := BL) (As := []) (mc := 0) (ms := 0) (dL_law_4.at 9 rfl) lk_L_49 (S_lt 0 (by decide)) (S_0 nw nx g) rfl rfl (Nat.le_of_ble_eq_true rfl) rfl hB1 hB2 ?_
  have key : ∀ (tk tf tt rr ll ff : Nat) (pl : Int) (bd : Nat → Nat) (z : Int), (gN P = 0 → z = -2 ∧ ff = fk ∧ pl = fp) → (¬ gN P = 0 → z = qel (elP nb n P 300 0 0) ∧ ff = (elP nb n P 300 0 0).1 ∧ pl = (elP nb n P 300 0 0).2.1) → SW G (j + 40) mL_law 554 [some (vf 0), some (vr (0)), some (vr (49)), some (vi (((ii : Nat) : Int)))] [vi z] (S nw nx g, 78 + gn, (up2 (pm c tk tf tt rr ll ff pl bd) 1 1 0)) BL post := by
    intro tk tf tt rr ll ff pl bd z hz0 hz1
    refine sw_aload_n (dL_law_4.at 10 rfl) rfl rfl ?_
    have hR1 : RMc (up2 (pm c tk tf tt rr ll ff pl bd) 1 1 0) bw ra rb rt rv rz fk fp (gR P) ln bo := RMc_row hRM (D1_off (by decide) (by decide) (by decide)) (D1_off (by decide) (by decide) (by decide)) (D1_off (by decide) (by decide) (by decide))
    refine SW.cg (congrArg (fun m => (S nw nx g, 78 + gn, m)) (rm_of hR1)) ?_
    refine sw_callV (B' := BL) (As := []) (mc := 0) (ms := 0) (dL_law_4.at 11 rfl) lk_L_52 (S_lt 49 (by decide)) (S_49 nw nx g) rfl rfl (Nat.le_of_ble_eq_true rfl) rfl hB1 hB2 ?_
    refine c_X9_element (j := j + 35) (nb := nb) (n := n) ?_ hn hB (fun i hi => ?_) (fun x s hx hs => ?_) hV hl1 hl2 (fun q => ?_) (fun q ra2 rb2 rt2 rv2 fk2 rz2 fp2 e1 e2 => ?_)
    · show (up2 (pm c tk tf tt rr ll ff pl bd) 1 1 0) 49 1 = _
      rw [D1_off (by decide) (by decide) (by decide)]; exact hS2
    · show (up2 (pm c tk tf tt rr ll ff pl bd) 1 1 0) 50 i = _
      rw [D1_off (by decide) (by decide) (by decide)]; exact (hT i hi).2
    · show (up2 (pm c tk tf tt rr ll ff pl bd) 1 1 0) 54 (5 * x + s) = _
      rw [D1_off (by decide) (by decide) (by decide)]; exact ML_S hM hx hs
    · obtain ⟨rfl, rfl, rfl⟩ := hz0 q
      refine sw_icmp_same (tgt := 2308) (dL_law_4.at 12 rfl) (by decide) ?_
      exact K _ ⟨0, nb, INV_el hv0⟩
    · obtain ⟨rfl, rfl, rfl⟩ := hz1 q
      subst e1 e2
      refine sw_icmp_same (tgt := 2308) (dL_law_4.at 12 rfl) (by decide) ?_
      exact K _ ⟨0, nb, INV_el hv0⟩
  refine c_X8_element (j := j + 35) (nb := nb) (n := n) (P := P) hnw hS1 hn hB (fun i hi => (hT i hi).1) hE hV (fun q => ?_) (fun q tk2 tf2 tt2 ff2 pl2 e1 e2 => ?_)
  · refine key _ _ _ _ _ _ _ _ _ (fun _ => ⟨rfl, ?_, ?_⟩) (fun q2 => absurd q q2)
    · have x1 := a2.2.2
      have x2 := hRM.1.2.2.2.2.2.1
      rw [a4] at x1
      omega
    · rw [a5]; exact hRM.1.2.2.2.2.2.2.1
  · exact key _ _ _ _ _ _ _ _ _ (fun q2 => absurd q2 q) (fun _ => ⟨rfl, e1, e2⟩)

