/-! THE TAPE: end, feed, element -/
theorem INV_all {c c2 : Nat → Nat → Int} {nw nx : Nat} {P : GD} {T : PT} {ln : Nat} {bo : Nat → Nat} {n n2 : Nat} {nb nb2 : Nat → Nat} {MT MA : Nat} (h : INV c nw nx P T ln bo n nb MT MA) (s : ∀ a, (a = 0 ∨ (4 < a ∧ a < 21) ∨ (61 < a ∧ a < 78)) → c2 a = c a) (s49 : ∀ k, 24 < k → c2 49 k = c 49 k) (hT : I_T c2 n2 nb2) (hP : I_P c2) (hR : I_R c2 (gR P) ln bo) (hE : I_E c2) (hEL : EL c2 nw P) (hM : ML c2 P) (hRR : RR P T c2) : INV c2 nw nx P T ln bo n2 nb2 MT MA := by
  obtain ⟨_, _, _, _, ⟨g1, g2, g3, g4, g5, _, _, g8⟩, ⟨q1, q2, _⟩, h7⟩ := h
  refine ⟨hT, hP, hR, hE, ⟨g1, g2, g3, g4, g5, hEL, hM, ?_⟩, ⟨PR_row q1 (s 5 (by omega)) (s 6 (by omega)), CR_same q2 (s 7 (by omega)) (s 8 (by omega)), hRR⟩, ?_⟩
  · rw [s 0 (by omega)]; exact g8
  · unfold I_M
    rw [s 15 (by omega), s 16 (by omega), s 17 (by omega), s 18 (by omega), s 19 (by omega), s49 38 (by decide), s49 39 (by decide), s 73 (by omega), s 74 (by omega), s 75 (by omega), s 76 (by omega), s 77 (by omega)]
    exact h7
theorem INV_tp {c c2 : Nat → Nat → Int} {nw nx : Nat} {P : GD} {T : PT} {ln : Nat} {bo : Nat → Nat} {n n2 : Nat} {nb nb2 : Nat → Nat} {MT MA : Nat} (h : INV c nw nx P T ln bo n nb MT MA) (s : ∀ a, a < 78 → a ≠ 1 → a ≠ 2 → a ≠ 49 → a ≠ 50 → c2 a = c a) (s1 : ∀ k, k ≠ 1 → c2 1 k = c 1 k) (s49 : ∀ k, k ≠ 1 → c2 49 k = c 49 k) (hT : I_T c2 n2 nb2) : INV c2 nw nx P T ln bo n2 nb2 MT MA := by
  have h0 := h
  obtain ⟨_, h2, h3, h4, ⟨g1, g2, g3, g4, g5, g6, g7, g8⟩, ⟨q1, q2, q3⟩, h7⟩ := h
  have r : ∀ a, a < 78 ∧ a ≠ 1 ∧ a ≠ 2 ∧ a ≠ 49 ∧ a ≠ 50 → c2 a = c a := fun a ha => s a ha.1 ha.2.1 ha.2.2.1 ha.2.2.2.1 ha.2.2.2.2
  refine INV_all h0 (fun a ha => r a (by omega)) (fun k hk => s49 k (by omega)) hT ?_ ?_ ⟨EMk_same h4.1 (fun q hq => r _ (by omega)), EMk_same h4.2 (fun q hq => r _ (by omega))⟩ (EL_same g6 (fun q hq => r _ (by omega))) ?_ ?_
  · unfold I_P
    rw [s1 2 (by decide), s1 3 (by decide), s1 4 (by decide), r 3 (by omega), r 4 (by omega), s49 2 (by decide), s49 3 (by decide)]
    exact h2
  · unfold I_R RMx RMc LMc
    rw [s49 8 (by decide), s49 9 (by decide), s49 10 (by decide), s49 11 (by decide), s49 12 (by decide), s49 2 (by decide), s49 3 (by decide), s49 4 (by decide), s49 5 (by decide), s49 21 (by decide), s49 22 (by decide), s49 23 (by decide), s49 24 (by decide), r 51 (by omega), r 52 (by omega), r 53 (by omega), r 54 (by omega), r 55 (by omega), r 56 (by omega), r 57 (by omega), r 58 (by omega), r 59 (by omega), r 60 (by omega), r 61 (by omega)]
    exact h3
  · unfold ML
    rw [s49 4 (by decide), s49 22 (by decide), s49 21 (by decide), s49 23 (by decide), s49 5 (by decide), r 51 (by omega), r 54 (by omega), r 55 (by omega), r 56 (by omega), r 57 (by omega), r 58 (by omega), r 59 (by omega), r 60 (by omega)]
    exact g7
  · exact RR_r q3 (s49 24 (by decide)) (r 64 (by omega)) (r 65 (by omega)) (r 66 (by omega))
def ETP (c2 : Nat → Nat → Int) (nw nx : Nat) (P : GD) (T : PT) (ln : Nat) (bo : Nat → Nat) (MT MA : Nat) : Prop := ∃ (n : Nat) (nb : Nat → Nat), INV c2 nw nx P T ln bo n nb MT MA
theorem m_end_off (n : Nat) (x : Int) (c : Nat → Nat → Int) {a : Nat} (h : a ≠ 1) : m_end n x c a = c a := by
  unfold m_end
  split
  · exact up2_off h
  · rfl
theorem INV_end {c : Nat → Nat → Int} {nw nx : Nat} {P : GD} {T : PT} {ln : Nat} {bo : Nat → Nat} {n : Nat} {nb : Nat → Nat} {MT MA : Nat} (h : INV c nw nx P T ln bo n nb MT MA) (x : Int) : ETP (m9_end n x (m_end n x c)) nw nx P T ln bo MT MA := by
  by_cases q : 0 ≤ x ∧ x ≤ (n : Int)
  · obtain ⟨k, rfl⟩ : ∃ k : Nat, x = (k : Int) := ⟨x.toNat, by omega⟩
    obtain ⟨⟨t1, t2, t3⟩, t4, t5⟩ := h.1
    refine ⟨k, nb, ?_⟩
    rw [m_end, if_pos q, m9_end, if_pos q]
    refine INV_tp h (fun a _ h1 _ h3 _ => ?_) (fun k h1 => ?_) (fun k h1 => ?_) ⟨⟨?_, ?_, by omega⟩, t4, fun i hi => ?_⟩
    · rw [up2_off h3, up2_off h1]
    · rw [up2_ne (Or.inl (by decide)), up2_ne (Or.inr h1)]
    · rw [up2_ne (Or.inr h1), up2_ne (Or.inl (by decide))]
    · rw [up2_ne (Or.inl (by decide)), up2_eq]
    · rw [up2_eq]
    · rw [up2_off (by decide), up2_off (by decide), up2_off (by decide), up2_off (by decide)]
      exact t5 i hi
  · exact ⟨n, nb, by rw [m_end, if_neg q, m9_end, if_neg q]; exact h⟩

set_option maxHeartbeats 2000000 in
set_option maxRecDepth 20000 in
theorem g_law_end {G : GG} {j nw nx gn : Nat} {g : Nat → Sh} {c : Nat → Nat → Int} {post : Option AV → AM → Prop} {BL : BB} {n : Nat} {ii : Nat} (hG : G.2.1 < 2147483648) (hB1 : BL.1 ≤ BL.2.2.1) (hB2 : BL.2.1 ≤ BL.2.2.2)  (hv : (0 ≤ ((ii + 1 : Nat) : Int)) ∧ (((ii + 1 : Nat) : Int) < (G.2.1 : Int)) ∧ ((c 1 1 = ((n : Nat) : Int)) ∧ (n ≤ 300) ∧ (-2147483648 ≤ ((G.2.2 (((ii + 1 : Nat) : Int).toNat)).toInt) ∧ ((G.2.2 (((ii + 1 : Nat) : Int).toNat)).toInt) < 2147483648) ∧ ((0 ≤ ((ii + 1 : Nat) : Int)) ∧ (((ii + 1 : Nat) : Int) < (G.2.1 : Int)) ∧ (((m_end n ((G.2.2 (((ii + 1 : Nat) : Int).toNat)).toInt) c) 49 1 = ((n : Nat) : Int)) ∧ (n ≤ 300) ∧ (-2147483648 ≤ ((G.2.2 (((ii + 1 : Nat) : Int).toNat)).toInt) ∧ ((G.2.2 (((ii + 1 : Nat) : Int).toNat)).toInt) < 2147483648) ∧ (SW G (j + 40) mL_law 2308 [some (vf 0), some (vr (0)), some (vr (49)), some (vi (((ii : Nat) : Int)))] [] (S nw nx g, 78 + gn, (m9_end n ((G.2.2 (((ii + 1 : Nat) : Int).toNat)).toInt) (m_end n ((G.2.2 (((ii + 1 : Nat) : Int).toNat)).toInt) c))) BL post))))) :
    SW G (j + 40) mL_law 379 [some (vf 0), some (vr (0)), some (vr (49)), some (vi (((ii : Nat) : Int)))] [] (S nw nx g, 78 + gn, c) BL post := by
  refine sw_aload_n (dL_law_1.at 29 rfl) rfl rfl ?_
  refine sw_aload_nf (dL_law_1.at 30 rfl) rfl rfl ?_
  refine sw_iload_n (dL_law_1.at 31 rfl) rfl rfl ?_
  refine sw_iconst (dL_law_1.at 32 rfl) ?_
  refine sw_iadd (dL_law_1.at 33 rfl) ?_
  refine sw_topI (y := ((ii + 1 : Nat) : Int)) (by first | rfl | (congr 1)) ?_
  refine sw_sld (dL_law_1.at 34 rfl) hG hv.1 hv.2.1 ?_
  replace hv := hv.2.2
  refine sw_callV (B' := BL) (As := [vi ((G.2.2 (((ii + 1 : Nat) : Int).toNat)).toInt)]) (mc := 0) (ms := 0) (dL_law_1.at 35 rfl) lk_L_18 (S_lt 0 (by decide)) (S_0 nw nx g) rfl rfl (Nat.le_of_ble_eq_true rfl) rfl hB1 hB2 ?_
  refine c_X8_end (x := ((G.2.2 (((ii + 1 : Nat) : Int).toNat)).toInt)) (n := n) (j := j + 39) hv.1 hv.2.1 hv.2.2.1 ?_
  replace hv := hv.2.2.2
  refine sw_aload_n (dL_law_1.at 36 rfl) rfl rfl ?_
  refine sw_aload_nf (dL_law_1.at 37 rfl) rfl rfl ?_
  refine sw_iload_n (dL_law_1.at 38 rfl) rfl rfl ?_
  refine sw_iconst (dL_law_1.at 39 rfl) ?_
  refine sw_iadd (dL_law_1.at 40 rfl) ?_
  refine sw_topI (y := ((ii + 1 : Nat) : Int)) (by first | rfl | (congr 1)) ?_
  refine sw_sld (dL_law_1.at 41 rfl) hG hv.1 hv.2.1 ?_
  replace hv := hv.2.2
  refine sw_callV (B' := BL) (As := [vi ((G.2.2 (((ii + 1 : Nat) : Int).toNat)).toInt)]) (mc := 0) (ms := 0) (dL_law_1.at 42 rfl) lk_L_22 (S_lt 49 (by decide)) (S_49 nw nx g) rfl rfl (Nat.le_of_ble_eq_true rfl) rfl hB1 hB2 ?_
  refine c_X9_end (x := ((G.2.2 (((ii + 1 : Nat) : Int).toNat)).toInt)) (n := n) (j := j + 38) hv.1 hv.2.1 hv.2.2.1 ?_
  replace hv := hv.2.2.2
  refine sw_icmp_same (tgt := 2308) (dL_law_1.at 43 rfl) (by decide) ?_
  exact hv

theorem cs_end {G : GG} {j nw nx gn : Nat} {g : Nat → Sh} {c : Nat → Nat → Int} {post : Option AV → AM → Prop} {BL : BB} {P : GD} {T : PT} {ln : Nat} {bo : Nat → Nat} {n : Nat} {nb : Nat → Nat} {MT : Nat} {MA : Nat} {ii : Nat} (hG : G.2.1 < 2147483648) (hB1 : BL.1 ≤ BL.2.2.1) (hB2 : BL.2.1 ≤ BL.2.2.2) (hii : ii + 6 ≤ G.2.1) (hv : INV c nw nx P T ln bo n nb MT MA) (K : ∀ c2 : Nat → Nat → Int, ETP c2 nw nx P T ln bo MT MA → SW G (j + 40) mL_law 2308 [some (vf 0), some (vr (0)), some (vr (49)), some (vi (((ii : Nat) : Int)))] [] (S nw nx g, 78 + gn, c2) BL post) : SW G (j + 40) mL_law 379 [some (vf 0), some (vr (0)), some (vr (49)), some (vi (((ii : Nat) : Int)))] [] (S nw nx g, 78 + gn, c) BL post := by
  have hv0 := hv
  obtain ⟨hIT, hIP, hIR, hIE, ⟨hwx, hSP, ⟨⟨hV, hC, hDn, hSi⟩, ⟨hOr, hMi, hSp, hBr, hBt⟩, ⟨hLa, hGP, hP0, hHT⟩, hMv⟩, hbo, hbl, hE, hM, hln⟩, ⟨hPR, hCR, hRR⟩, hIM⟩ := hv
  have hIM0 := hIM
  obtain ⟨⟨hMT60, hMA30, hMA0, hMf, hMs⟩, ⟨hM1, hM2, hM3, hM4⟩, hM5, hM6⟩ := hIM
  have hnw : nw = 21 ∨ nw = 35 := by omega
  have hRb := hC.1.1
  have hLn := hC.1.2
  have hLn2 : ∀ s, s < gR P → s + 1 < gN P := hC.1.2
  have hS1 := hIT.1.1
  have hS2 := hIT.1.2.1
  have hn := hIT.1.2.2
  refine g_law_end (n := n) hG hB1 hB2 ?_
  refine ⟨?_, ?_, ⟨?_, ?_, ?_, ⟨?_, ?_, ⟨?_, ?_, ?_, ?_⟩⟩⟩⟩
  all_goals first | assumption | omega | exact i32rng _ | (rw [m_end_off _ _ _ (by decide)]; assumption) | exact K _ (INV_end hv0 _)

theorem m_put_1 (c : Nat → Nat → Int) (n : Nat) (z : Int) {k : Nat} (h : k ≠ 1) : m_put c n z 1 k = c 1 k := by
  unfold m_put
  rw [up2_ne (Or.inr h), up2_ne (Or.inl (by decide)), up2_ne (Or.inr h), up2_ne (Or.inl (by decide)), up2_ne (Or.inr h), up2_ne (Or.inl (by decide)), up2_ne (Or.inr h), up2_ne (Or.inl (by decide))]
theorem m_feed_1 (c : Nat → Nat → Int) (n : Nat) (a b d e f : Int) {k : Nat} (h : k ≠ 1) : m_feed c n a b d e f 1 k = c 1 k := by
  unfold m_feed
  rw [m_put_1 _ _ _ h, m_put_1 _ _ _ h, m_put_1 _ _ _ h, m_put_1 _ _ _ h, m_put_1 _ _ _ h]
theorem INV_feed {c : Nat → Nat → Int} {nw nx : Nat} {P : GD} {T : PT} {ln : Nat} {bo : Nat → Nat} {n : Nat} {nb : Nat → Nat} {MT MA : Nat} (h : INV c nw nx P T ln bo n nb MT MA) (hn : n ≤ 280) (a b d e f : Int) {N : Nat} (hN : 78 ≤ N) : ETP (f5 (up2 (upZ (m_feed c n a b d e f) N) 49 1 ((n + 20 : Nat) : Int)) N (fdT (btF (fv5 (fun _ => 0) a b d e f)) n 20 0 (m_feed c n a b d e f 50)) (fv5 (fun _ => 0) a b d e f)) nw nx P T ln bo MT MA := by
  obtain ⟨⟨t1, t2, t3⟩, t4, t5⟩ := h.1
  refine ⟨n + 20, nb2 nb n a b d e f, ?_⟩
  generalize hc2 : f5 (up2 (upZ (m_feed c n a b d e f) N) 49 1 ((n + 20 : Nat) : Int)) N (fdT (btF (fv5 (fun _ => 0) a b d e f)) n 20 0 (m_feed c n a b d e f 50)) (fv5 (fun _ => 0) a b d e f) = c2
  have o : ∀ x k, x < 78 → x ≠ 49 → x ≠ 50 → c2 x k = m_feed c n a b d e f x k := fun x k h1 h2 h3 => by
    rw [← hc2, f5, wr_off (by omega), wr_off h3, up2_ne (Or.inl h2), upZ_ne (by omega)]
  have o9 : ∀ k, k ≠ 1 → c2 49 k = c 49 k := fun k h1 => by
    rw [← hc2, f5, wr_off (by omega), wr_off (by decide), up2_ne (Or.inr h1), upZ_ne (by omega), m_feed_off _ _ _ _ _ _ _ ⟨by decide, by decide⟩]
  have o50 : ∀ k, c2 50 k = fdT (btF (fv5 (fun _ => 0) a b d e f)) n 20 0 (m_feed c n a b d e f 50) k := fun k => by
    rw [← hc2, f5, wr_off (by omega)]
    simp [wr]
  refine INV_tp h (fun x h1 h2 h3 h4 h5 => ?_) (fun k h1 => ?_) o9 ⟨⟨?_, ?_, by omega⟩, nb2_lt t4, fun i hi => ⟨?_, ?_⟩⟩
  · funext k
    rw [o x k h1 h4 h5, m_feed_off _ _ _ _ _ _ _ ⟨h2, h3⟩]
  · rw [o 1 k (by decide) (by decide) (by decide), m_feed_1 _ _ _ _ _ _ _ h1]
  · rw [o 1 1 (by decide) (by decide) (by decide)]; exact m_feed_n _ _ _ _ _ _ _
  · rw [← hc2, f5, wr_off (by omega), wr_off (by decide), up2_eq]
  · rw [o 2 i (by decide) (by decide) (by decide)]; exact cls_feed (t5 i hi).1
  · rw [o50]
    refine ref_feed ?_
    rw [m_feed_off _ _ _ _ _ _ _ ⟨by decide, by decide⟩]; exact (t5 i hi).2

set_option maxHeartbeats 2000000 in
set_option maxRecDepth 20000 in
theorem g_law_feed {G : GG} {j nw nx gn : Nat} {g : Nat → Sh} {c : Nat → Nat → Int} {post : Option AV → AM → Prop} {BL : BB} {n : Nat} {ii : Nat} (hG : G.2.1 < 2147483648) (hB1 : BL.1 ≤ BL.2.2.1) (hB2 : BL.2.1 ≤ BL.2.2.2)  (hv : (0 ≤ ((ii + 1 : Nat) : Int)) ∧ (((ii + 1 : Nat) : Int) < (G.2.1 : Int)) ∧ ((0 ≤ ((ii + 2 : Nat) : Int)) ∧ (((ii + 2 : Nat) : Int) < (G.2.1 : Int)) ∧ ((0 ≤ ((ii + 3 : Nat) : Int)) ∧ (((ii + 3 : Nat) : Int) < (G.2.1 : Int)) ∧ ((0 ≤ ((ii + 4 : Nat) : Int)) ∧ (((ii + 4 : Nat) : Int) < (G.2.1 : Int)) ∧ ((0 ≤ ((ii + 5 : Nat) : Int)) ∧ (((ii + 5 : Nat) : Int) < (G.2.1 : Int)) ∧ ((c 1 1 = ((n : Nat) : Int)) ∧ (n ≤ 300) ∧ ((0 ≤ ((ii + 1 : Nat) : Int)) ∧ (((ii + 1 : Nat) : Int) < (G.2.1 : Int)) ∧ ((0 ≤ ((ii + 2 : Nat) : Int)) ∧ (((ii + 2 : Nat) : Int) < (G.2.1 : Int)) ∧ ((0 ≤ ((ii + 3 : Nat) : Int)) ∧ (((ii + 3 : Nat) : Int) < (G.2.1 : Int)) ∧ ((0 ≤ ((ii + 4 : Nat) : Int)) ∧ (((ii + 4 : Nat) : Int) < (G.2.1 : Int)) ∧ ((0 ≤ ((ii + 5 : Nat) : Int)) ∧ (((ii + 5 : Nat) : Int) < (G.2.1 : Int)) ∧ (SW G (j + 40) mL_law 371 [some (vf 0), some (vr (0)), some (vr (49)), some (vi (((ii : Nat) : Int)))] [vi ((G.2.2 (((ii + 5 : Nat) : Int).toNat)).toInt), vi ((G.2.2 (((ii + 4 : Nat) : Int).toNat)).toInt), vi ((G.2.2 (((ii + 3 : Nat) : Int).toNat)).toInt), vi ((G.2.2 (((ii + 2 : Nat) : Int).toNat)).toInt), vi ((G.2.2 (((ii + 1 : Nat) : Int).toNat)).toInt), vr (49), vi (if n + 20 ≤ 300 then ((n + 20 : Nat) : Int) else -1)] (S nw nx g, 78 + gn, (if n + 20 ≤ 300 then m_feed c n ((G.2.2 (((ii + 1 : Nat) : Int).toNat)).toInt) ((G.2.2 (((ii + 2 : Nat) : Int).toNat)).toInt) ((G.2.2 (((ii + 3 : Nat) : Int).toNat)).toInt) ((G.2.2 (((ii + 4 : Nat) : Int).toNat)).toInt) ((G.2.2 (((ii + 5 : Nat) : Int).toNat)).toInt) else c)) BL post)))))))))))) :
    SW G (j + 40) mL_law 316 [some (vf 0), some (vr (0)), some (vr (49)), some (vi (((ii : Nat) : Int)))] [] (S nw nx g, 78 + gn, c) BL post := by
  refine sw_aload_n (dL_law_0.at 22 rfl) rfl rfl ?_
  refine sw_aload_nf (dL_law_0.at 23 rfl) rfl rfl ?_
  refine sw_iload_n (dL_law_0.at 24 rfl) rfl rfl ?_
  refine sw_iconst (dL_law_0.at 25 rfl) ?_
  refine sw_iadd (dL_law_0.at 26 rfl) ?_
  refine sw_topI (y := ((ii + 1 : Nat) : Int)) (by first | rfl | (congr 1)) ?_
  refine sw_sld (dL_law_0.at 27 rfl) hG hv.1 hv.2.1 ?_
  replace hv := hv.2.2
  refine sw_aload_nf (dL_law_0.at 28 rfl) rfl rfl ?_
  refine sw_iload_n (dL_law_0.at 29 rfl) rfl rfl ?_
  refine sw_iconst (dL_law_0.at 30 rfl) ?_
  refine sw_iadd (dL_law_0.at 31 rfl) ?_
  refine sw_topI (y := ((ii + 2 : Nat) : Int)) (by first | rfl | (congr 1)) ?_
  refine sw_sld (dL_law_0.at 32 rfl) hG hv.1 hv.2.1 ?_
  replace hv := hv.2.2
  refine sw_aload_nf (dL_law_0.at 33 rfl) rfl rfl ?_
  refine sw_iload_n (dL_law_0.at 34 rfl) rfl rfl ?_
  refine sw_iconst (dL_law_0.at 35 rfl) ?_
  refine sw_iadd (dL_law_0.at 36 rfl) ?_
  refine sw_topI (y := ((ii + 3 : Nat) : Int)) (by first | rfl | (congr 1)) ?_
  refine sw_sld (dL_law_0.at 37 rfl) hG hv.1 hv.2.1 ?_
  replace hv := hv.2.2
  refine sw_aload_nf (dL_law_0.at 38 rfl) rfl rfl ?_
  refine sw_iload_n (dL_law_0.at 39 rfl) rfl rfl ?_
  refine sw_iconst (dL_law_0.at 40 rfl) ?_
  refine sw_iadd (dL_law_0.at 41 rfl) ?_
  refine sw_topI (y := ((ii + 4 : Nat) : Int)) (by first | rfl | (congr 1)) ?_
  refine sw_sld (dL_law_0.at 42 rfl) hG hv.1 hv.2.1 ?_
  replace hv := hv.2.2
  refine sw_aload_nf (dL_law_0.at 43 rfl) rfl rfl ?_
  refine sw_iload_n (dL_law_0.at 44 rfl) rfl rfl ?_
  refine sw_iconst (dL_law_0.at 45 rfl) ?_
  refine sw_iadd (dL_law_0.at 46 rfl) ?_
  refine sw_topI (y := ((ii + 5 : Nat) : Int)) (by first | rfl | (congr 1)) ?_
  refine sw_sld (dL_law_0.at 47 rfl) hG hv.1 hv.2.1 ?_
  replace hv := hv.2.2
  refine sw_callV (B' := BL) (As := [vi ((G.2.2 (((ii + 1 : Nat) : Int).toNat)).toInt), vi ((G.2.2 (((ii + 2 : Nat) : Int).toNat)).toInt), vi ((G.2.2 (((ii + 3 : Nat) : Int).toNat)).toInt), vi ((G.2.2 (((ii + 4 : Nat) : Int).toNat)).toInt), vi ((G.2.2 (((ii + 5 : Nat) : Int).toNat)).toInt)]) (mc := 0) (ms := 0) (dL_law_0.at 48 rfl) lk_L_13 (S_lt 0 (by decide)) (S_0 nw nx g) rfl rfl (Nat.le_of_ble_eq_true rfl) rfl hB1 hB2 ?_
  refine c_X8_feed (a := ((G.2.2 (((ii + 1 : Nat) : Int).toNat)).toInt)) (b := ((G.2.2 (((ii + 2 : Nat) : Int).toNat)).toInt)) (d := ((G.2.2 (((ii + 3 : Nat) : Int).toNat)).toInt)) (e := ((G.2.2 (((ii + 4 : Nat) : Int).toNat)).toInt)) (f := ((G.2.2 (((ii + 5 : Nat) : Int).toNat)).toInt)) (n := n) (j := j + 38) hv.1 hv.2.1 ?_
  replace hv := hv.2.2
  refine sw_aload_n (dL_law_0.at 49 rfl) rfl rfl ?_
  refine sw_aload_nf (dL_law_1.at 0 rfl) rfl rfl ?_
  refine sw_iload_n (dL_law_1.at 1 rfl) rfl rfl ?_
  refine sw_iconst (dL_law_1.at 2 rfl) ?_
  refine sw_iadd (dL_law_1.at 3 rfl) ?_
  refine sw_topI (y := ((ii + 1 : Nat) : Int)) (by first | rfl | (congr 1)) ?_
  refine sw_sld (dL_law_1.at 4 rfl) hG hv.1 hv.2.1 ?_
  replace hv := hv.2.2
  refine sw_aload_nf (dL_law_1.at 5 rfl) rfl rfl ?_
  refine sw_iload_n (dL_law_1.at 6 rfl) rfl rfl ?_
  refine sw_iconst (dL_law_1.at 7 rfl) ?_
  refine sw_iadd (dL_law_1.at 8 rfl) ?_
  refine sw_topI (y := ((ii + 2 : Nat) : Int)) (by first | rfl | (congr 1)) ?_
  refine sw_sld (dL_law_1.at 9 rfl) hG hv.1 hv.2.1 ?_
  replace hv := hv.2.2
  refine sw_aload_nf (dL_law_1.at 10 rfl) rfl rfl ?_
  refine sw_iload_n (dL_law_1.at 11 rfl) rfl rfl ?_
  refine sw_iconst (dL_law_1.at 12 rfl) ?_
  refine sw_iadd (dL_law_1.at 13 rfl) ?_
  refine sw_topI (y := ((ii + 3 : Nat) : Int)) (by first | rfl | (congr 1)) ?_
  refine sw_sld (dL_law_1.at 14 rfl) hG hv.1 hv.2.1 ?_
  replace hv := hv.2.2
  refine sw_aload_nf (dL_law_1.at 15 rfl) rfl rfl ?_
  refine sw_iload_n (dL_law_1.at 16 rfl) rfl rfl ?_
  refine sw_iconst (dL_law_1.at 17 rfl) ?_
  refine sw_iadd (dL_law_1.at 18 rfl) ?_
  refine sw_topI (y := ((ii + 4 : Nat) : Int)) (by first | rfl | (congr 1)) ?_
  refine sw_sld (dL_law_1.at 19 rfl) hG hv.1 hv.2.1 ?_
  replace hv := hv.2.2
  refine sw_aload_nf (dL_law_1.at 20 rfl) rfl rfl ?_
  refine sw_iload_n (dL_law_1.at 21 rfl) rfl rfl ?_
  refine sw_iconst (dL_law_1.at 22 rfl) ?_
  refine sw_iadd (dL_law_1.at 23 rfl) ?_
  refine sw_topI (y := ((ii + 5 : Nat) : Int)) (by first | rfl | (congr 1)) ?_
  refine sw_sld (dL_law_1.at 24 rfl) hG hv.1 hv.2.1 ?_
  replace hv := hv.2.2
  exact hv

theorem cs_feed {G : GG} {j nw nx gn : Nat} {g : Nat → Sh} {c : Nat → Nat → Int} {post : Option AV → AM → Prop} {BL : BB} {P : GD} {T : PT} {ln : Nat} {bo : Nat → Nat} {n : Nat} {nb : Nat → Nat} {MT : Nat} {MA : Nat} {ii : Nat} (hG : G.2.1 < 2147483648) (hB1 : BL.1 + 1 ≤ BL.2.2.1) (hB2 : BL.2.1 + 5 ≤ BL.2.2.2) (hii : ii + 6 ≤ G.2.1) (hv : INV c nw nx P T ln bo n nb MT MA) (K : ∀ (g2 : Nat → Sh) (gn2 : Nat) (c2 : Nat → Nat → Int), ETP c2 nw nx P T ln bo MT MA → SW G (j + 40) mL_law 2308 [some (vf 0), some (vr (0)), some (vr (49)), some (vi (((ii : Nat) : Int)))] [] (S nw nx g2, 78 + gn2, c2) (BL.1 + 1, BL.2.1 + 5, BL.2.2.1, BL.2.2.2) post) : SW G (j + 40) mL_law 316 [some (vf 0), some (vr (0)), some (vr (49)), some (vi (((ii : Nat) : Int)))] [] (S nw nx g, 78 + gn, c) BL post := by
  have hv0 := hv
  obtain ⟨hIT, hIP, hIR, hIE, ⟨hwx, hSP, ⟨⟨hV, hC, hDn, hSi⟩, ⟨hOr, hMi, hSp, hBr, hBt⟩, ⟨hLa, hGP, hP0, hHT⟩, hMv⟩, hbo, hbl, hE, hM, hln⟩, ⟨hPR, hCR, hRR⟩, hIM⟩ := hv
  have hIM0 := hIM
  obtain ⟨⟨hMT60, hMA30, hMA0, hMf, hMs⟩, ⟨hM1, hM2, hM3, hM4⟩, hM5, hM6⟩ := hIM
  have hnw : nw = 21 ∨ nw = 35 := by omega
  have hRb := hC.1.1
  have hLn := hC.1.2
  have hLn2 : ∀ s, s < gR P → s + 1 < gN P := hC.1.2
  have hS1 := hIT.1.1
  have hS2 := hIT.1.2.1
  have hn := hIT.1.2.2
  refine g_law_feed (n := n) hG (by omega) (by omega) ?_
  refine ⟨?_, ?_, ⟨?_, ?_, ⟨?_, ?_, ⟨?_, ?_, ⟨?_, ?_, ⟨?_, ?_, ⟨?_, ?_, ⟨?_, ?_, ⟨?_, ?_, ⟨?_, ?_, ⟨?_, ?_, ?_⟩⟩⟩⟩⟩⟩⟩⟩⟩⟩⟩
  all_goals first | assumption | omega | skip
  by_cases q : n + 20 ≤ 300
  · rw [if_pos q, if_pos q]
    refine sw_callV (B' := (BL.1 + 1, BL.2.1 + 5, BL.2.2.1, BL.2.2.2)) (As := [vi ((G.2.2 (((ii + 1 : Nat) : Int).toNat)).toInt), vi ((G.2.2 (((ii + 2 : Nat) : Int).toNat)).toInt), vi ((G.2.2 (((ii + 3 : Nat) : Int).toNat)).toInt), vi ((G.2.2 (((ii + 4 : Nat) : Int).toNat)).toInt), vi ((G.2.2 (((ii + 5 : Nat) : Int).toNat)).toInt)]) (mc := 1) (ms := 5) (dL_law_1.at 25 rfl) lk_L_17 (S_lt 49 (by decide)) (S_49 nw nx g) rfl rfl (Nat.le_of_ble_eq_true rfl) rfl hB1 hB2 ?_
    refine c_X9_feed (j := j + 39) (n := n) ?_ hn (fun q2 => absurd q2 (by omega)) (fun _ => ?_)
    · rw [m_feed_off _ _ _ _ _ _ _ ⟨by decide, by decide⟩]; exact hS2
    · refine sw_icmp_same (tgt := 2308) (dL_law_1.at 26 rfl) (by decide) ?_
      exact K _ _ _ (INV_feed hv0 (by omega) _ _ _ _ _ (by omega))
  · rw [if_neg q, if_neg q]
    refine sw_callV (B' := (BL.1 + 1, BL.2.1 + 5, BL.2.2.1, BL.2.2.2)) (As := [vi ((G.2.2 (((ii + 1 : Nat) : Int).toNat)).toInt), vi ((G.2.2 (((ii + 2 : Nat) : Int).toNat)).toInt), vi ((G.2.2 (((ii + 3 : Nat) : Int).toNat)).toInt), vi ((G.2.2 (((ii + 4 : Nat) : Int).toNat)).toInt), vi ((G.2.2 (((ii + 5 : Nat) : Int).toNat)).toInt)]) (mc := 1) (ms := 5) (dL_law_1.at 25 rfl) lk_L_17 (S_lt 49 (by decide)) (S_49 nw nx g) rfl rfl (Nat.le_of_ble_eq_true rfl) rfl hB1 hB2 ?_
    refine c_X9_feed (j := j + 39) (n := n) hS2 hn (fun _ => ?_) (fun q2 => absurd q2 (by omega))
    refine sw_icmp_same (tgt := 2308) (dL_law_1.at 26 rfl) (by decide) ?_
    exact K _ _ _ ⟨n, nb, hv0⟩

