/-! GROUP: what both sides leave -/
def EINV (c : Nat → Nat → Int) (nw nx : Nat) : Prop := ∃ (P : GD) (T : PT) (ln : Nat) (bo : Nat → Nat) (n : Nat) (nb : Nat → Nat) (MT MA : Nat), INV c nw nx P T ln bo n nb MT MA
set_option maxHeartbeats 4000000 in
theorem INV_gf {c : Nat → Nat → Int} {nw nx : Nat} {P : GD} {T : PT} {ln : Nat} {bo : Nat → Nat} {n : Nat} {nb : Nat → Nat} {MT MA : Nat} {d c2 : Nat → Nat → Int} {tk tf tt rr ll ff : Nat} {pl : Int} {bd : Nat → Nat} (h : INV c nw nx P T ln bo n nb MT MA) (e1 : d 1 = (up2 (pm c tk tf tt rr ll ff pl bd) 1 1 0) 1) (e3 : d 3 = (up2 (pm c tk tf tt rr ll ff pl bd) 1 1 0) 3) (e4 : d 4 = (up2 (pm c tk tf tt rr ll ff pl bd) 1 1 0) 4) (o : ∀ a, a ≠ 1 → a ≠ 3 → a ≠ 4 → (a < nx ∨ nx + 13 < a) → d a = c a) (hx : EMk d nx) (hF : FIN d c2) (hR : RMx c2 ff pl (gR P) ln bo) (hL : LAYd c2 P) : EINV c2 nw nx := by
  refine ⟨P, T, ln, bo, 0, nb, MT, MA, ?_⟩
  obtain ⟨⟨⟨t1, t2, t3⟩, t4, t5⟩, h2, h3, h4, ⟨g1, g2, g3, g4, g5, g6, g7, g8⟩, ⟨q1, q2, q3⟩, h7⟩ := id h
  obtain ⟨f1, f2, f3⟩ := hF
  obtain ⟨bw, ra, rb, rt, rv, rz, ⟨u1, u2, u3, u4, u5, u6, u7, u8, u9⟩, u10, u11⟩ := id hR
  obtain ⟨im, bh, ah, lo, fr, la, bk, mo, sp, hLM, _⟩ := id hL
  have r : ∀ a, a ≠ 1 ∧ a ≠ 3 ∧ a ≠ 4 ∧ a ≠ 49 ∧ (a < 51 ∨ 61 < a) ∧ (a < nx ∨ nx + 13 < a) → c2 a = c a := fun a ha => (f1 a (by omega) (by omega)).trans (o a (by omega) (by omega) (by omega) (by omega))
  refine INV_all h (fun a ha => r a (by omega)) (fun k hk => ?_) ⟨⟨?_, f3, by decide⟩, t4, fun i hi => ?_⟩ ?_ ⟨⟨_, _, hR⟩, im, bh, ah, lo, fr, la, bk, mo, sp, _, _, _, _, hLM⟩ ?_ (EL_same g6 (fun q hq => r _ (by omega))) (ML_of hR hL g2 g4) (Or.inl hLM.1.2.2.2)
  · rw [f2 k (by omega), o 49 (by decide) (by decide) (by decide) (by omega)]
  · rw [f1 1 (by decide) (by omega), e1]; exact D1_11
  · rw [r 2 (by omega), r 50 (by omega)]; exact t5 i hi
  · exact I_P_of (by rw [f1 1 (by decide) (by omega), e1]) (by rw [f1 3 (by decide) (by omega), e3]) (by rw [f1 4 (by decide) (by omega), e4]) u6 u7
  · have ex : EMk c2 nx := EMk_same hx (fun q hq => f1 _ (by omega) (by omega))
    rcases g1 with ⟨rfl, rfl⟩ | ⟨rfl, rfl⟩
    · exact ⟨EMk_same h4.1 (fun q hq => r _ (by omega)), ex⟩
    · exact ⟨ex, EMk_same h4.2 (fun q hq => r _ (by omega))⟩
theorem MG9_off (c : Nat → Nat → Int) {a : Nat} (h1 : a ≠ 49) (h2 : a ≠ 77) : MG9 c a = c a := by
  rw [MG9, up2_off h2, up2_off h2, up2_off h2, up2_off h1, up2_off h1]
theorem MG9_49 (c : Nat → Nat → Int) {k : Nat} (h1 : k ≠ 38) (h2 : k ≠ 39) : MG9 c 49 k = c 49 k := by
  rw [MG9, up2_ne (Or.inl (by decide)), up2_ne (Or.inl (by decide)), up2_ne (Or.inl (by decide)), up2_ne (Or.inr h1), up2_ne (Or.inr h2)]
theorem MG_off (c : Nat → Nat → Int) (l : Nat) {a : Nat} (h : a ≠ 0 ∧ a ≠ 5 ∧ a ≠ 7 ∧ a ≠ 15 ∧ a ≠ 19) : MG c l a = c a := by
  obtain ⟨h1, h2, h3, h4, h5⟩ := h
  rw [MG, up2_off h5, up2_off h5, up2_off h5, up2_off h4, up2_off h4, up2_off h3, up2_off h2, up2_off h1]
theorem MG_v (c : Nat → Nat → Int) (l : Nat) : MG c l 0 10 = ((l : Nat) : Int) ∧ MG c l 5 1 = 0 ∧ MG c l 7 1 = 0 ∧ MG c l 15 4 = 0 ∧ MG c l 15 5 = 0 ∧ ∀ q, q < 3 → MG c l 19 q = -1 := by
  refine ⟨by simp [MG, up2], by simp [MG, up2], by simp [MG, up2], by simp [MG, up2], by simp [MG, up2], fun q hq => ?_⟩
  obtain rfl | rfl | rfl : q = 0 ∨ q = 1 ∨ q = 2 := by omega
  · simp [MG, up2]
  · simp [MG, up2]
  · simp [MG, up2]
set_option maxHeartbeats 4000000 in
theorem INV_gn {c : Nat → Nat → Int} {nw nx : Nat} {P : GD} {T : PT} {ln : Nat} {bo : Nat → Nat} {n : Nat} {nb : Nat → Nat} {MT MA : Nat} {d c2 : Nat → Nat → Int} {tk tf tt rr ll : Nat} {bd : Nat → Nat} {P2 : GD} {ln2 : Nat} {bo2 : Nat → Nat} (h : INV c nw nx P T ln bo n nb MT MA) (e1 : d 1 = (up2 (pm c tk tf tt rr ll 0 (-1) bd) 1 1 0) 1) (e3 : d 3 = (up2 (pm c tk tf tt rr ll 0 (-1) bd) 1 1 0) 3) (e4 : d 4 = (up2 (pm c tk tf tt rr ll 0 (-1) bd) 1 1 0) 4) (o : ∀ a, a ≠ 1 → a ≠ 3 → a ≠ 4 → (a ≠ 0 ∧ a ≠ 5 ∧ a ≠ 7 ∧ a ≠ 15 ∧ a ≠ 19) → (a < nx ∨ nx + 13 < a) → d a = c a) (hx : EMk d nx) (hEL : EL d nx P2)
    (hv : d 0 10 = ((ln2 : Nat) : Int) ∧ d 5 1 = 0 ∧ d 7 1 = 0 ∧ d 15 4 = 0 ∧ d 15 5 = 0 ∧ ∀ q, q < 3 → d 19 q = -1) (hF : FIN d c2) (hR : RMx c2 0 (-1) (gR P2) ln2 bo2) (hL : LAYd c2 P2) (hS : STP P2 ln2) (hb : ∀ s t, s < gR P2 → t < gR P2 → bo2 (5 * s + t) = gBd P2 s t) (hb2 : ∀ i, i < 25 → bo2 i < 100) : EINV (MG9 c2) nx nw := by
  obtain ⟨T2, hT2⟩ := STP_F hS
  obtain ⟨⟨⟨t1, t2, t3⟩, t4, t5⟩, h2, h3, h4, ⟨g1, g2, g3, g4, g5, g6, g7, g8⟩, ⟨q1, ⟨f, q2, _⟩, q3⟩, h7⟩ := id h
  have hM := ML_of hR hL hS hb
  obtain ⟨f1, f2, f3⟩ := hF
  obtain ⟨v1, v2, v3, v4, v5, v6⟩ := hv
  obtain ⟨bw, ra, rb, rt, rv, rz, ⟨u1, u2, u3, u4, u5, u6, u7, u8, u9⟩, u10, u11⟩ := id hR
  obtain ⟨im, bh, ah, lo, fr, la, bk, mo, sp, ⟨⟨l1, l2, l3, l4⟩, l5⟩, _⟩ := id hL
  have k0 : ∀ a, a ≠ 49 ∧ a ≠ 77 ∧ (a < 51 ∨ 61 < a) → MG9 c2 a = d a := fun a ha => (MG9_off c2 (by omega) (by omega)).trans (f1 a (by omega) (by omega))
  have k2 : ∀ a, a ≠ 49 ∧ a ≠ 77 → MG9 c2 a = c2 a := fun a ha => MG9_off c2 (by omega) (by omega)
  have k9 : ∀ k, k ≠ 38 → k ≠ 39 → MG9 c2 49 k = c2 49 k := fun k a b => MG9_49 c2 a b
  have r : ∀ a, a ≠ 1 ∧ a ≠ 3 ∧ a ≠ 4 ∧ a ≠ 0 ∧ a ≠ 5 ∧ a ≠ 7 ∧ a ≠ 15 ∧ a ≠ 19 ∧ a ≠ 49 ∧ a ≠ 77 ∧ (a < 51 ∨ 61 < a) ∧ (a < nx ∨ nx + 13 < a) → MG9 c2 a = c a := fun a ha => (k0 a (by omega)).trans (o a (by omega) (by omega) (by omega) (by omega) (by omega))
  have ex : EMk (MG9 c2) nx := EMk_same hx (fun q hq => k0 _ (by omega))
  refine ⟨P2, T2, ln2, bo2, 0, nb, 0, 0, ⟨⟨?_, ?_, by decide⟩, t4, fun i hi => ?_⟩, ?_, ⟨⟨0, -1, bw, ra, rb, rt, rv, rz, ⟨?_, ?_, ?_, ?_, ?_, ?_, ?_, ?_, ?_⟩, ?_, ?_⟩, im, bh, ah, lo, fr, la, bk, mo, sp, gM P2, gN P2, gN P2 - 1, false, ⟨?_, ?_, ?_, ?_⟩, fun i => ?_⟩, ?_, ⟨?_, hS, hT2, hb, hb2, EL_same hEL (fun q hq => k0 _ (by omega)), ?_, ?_⟩, ⟨Or.inl ?_, ⟨f, ?_, Or.inl ?_⟩, Or.inl ?_⟩, ⟨by decide, by decide, fun _ => rfl, fun z => absurd z (by decide), fun i hi => absurd hi (Nat.not_lt_zero _)⟩, ⟨?_, ?_, ?_, ?_⟩, fun i hi => absurd hi (Nat.not_lt_zero _), fun q hq => Or.inl ⟨?_, ?_⟩⟩
  · rw [k0 1 (by omega), e1]; exact D1_11
  · rw [k9 1 (by decide) (by decide)]; exact f3
  · rw [r 2 (by omega), r 50 (by omega)]; exact t5 i hi
  · exact I_P_of (by rw [k0 1 (by omega), e1]) (by rw [k0 3 (by omega), e3]) (by rw [k0 4 (by omega), e4]) (by rw [k9 2 (by decide) (by decide)]; exact u6) (by rw [k9 3 (by decide) (by decide)]; exact u7)
  · rw [k9 8 (by decide) (by decide)]; exact u1
  · rw [k9 9 (by decide) (by decide)]; exact u2
  · rw [k9 10 (by decide) (by decide)]; exact u3
  · rw [k9 11 (by decide) (by decide)]; exact u4
  · rw [k9 12 (by decide) (by decide)]; exact u5
  · rw [k9 2 (by decide) (by decide)]; exact u6
  · rw [k9 3 (by decide) (by decide)]; exact u7
  · rw [k9 4 (by decide) (by decide)]; exact u8
  · rw [k9 5 (by decide) (by decide)]; exact u9
  · rw [k2 51 (by omega)]; exact u10
  · rw [k2 52 (by omega)]; exact u11
  · rw [k9 21 (by decide) (by decide)]; exact l1
  · rw [k9 22 (by decide) (by decide)]; exact l2
  · rw [k9 23 (by decide) (by decide)]; exact l3
  · rw [k9 24 (by decide) (by decide)]; exact l4
  · rw [k2 53 (by omega), k2 54 (by omega), k2 55 (by omega), k2 56 (by omega), k2 57 (by omega), k2 58 (by omega), k2 59 (by omega), k2 60 (by omega), k2 61 (by omega)]; exact l5 i
  · rcases g1 with ⟨rfl, rfl⟩ | ⟨rfl, rfl⟩
    · exact ⟨EMk_same h4.1 (fun q hq => r _ (by omega)), ex⟩
    · exact ⟨ex, EMk_same h4.2 (fun q hq => r _ (by omega))⟩
  · omega
  · unfold ML
    rw [k9 4 (by decide) (by decide), k9 22 (by decide) (by decide), k9 21 (by decide) (by decide), k9 23 (by decide) (by decide), k9 5 (by decide) (by decide), k2 51 (by omega), k2 54 (by omega), k2 55 (by omega), k2 56 (by omega), k2 57 (by omega), k2 58 (by omega), k2 59 (by omega), k2 60 (by omega)]
    exact hM
  · rw [k0 0 (by omega)]; exact v1
  · rw [k0 5 (by omega)]; exact v2
  · rw [r 8 (by omega)]; exact q2
  · rw [k0 7 (by omega)]; exact v3
  · rw [k9 24 (by decide) (by decide)]; exact l4
  · rw [k0 15 (by omega)]; exact v4
  · rw [k0 15 (by omega)]; exact v5
  · simp [MG9, up2]
  · simp [MG9, up2]
  · rw [k0 19 (by omega)]; exact v6 q hq
  · obtain rfl | rfl | rfl : q = 0 ∨ q = 1 ∨ q = 2 := by omega
    · simp [MG9, up2]
    · simp [MG9, up2]
    · simp [MG9, up2]
theorem rbd_bd {P : GD} {bd : Nat → Nat} (h : ∀ s t, s < gR P → t < gR P → s ≠ t → rbd bd (5 * s + t) = gB P s t) : ∀ s t, s < gR P → t < gR P → rbd bd (5 * s + t) = gBd P s t := by
  intro s t hs ht
  unfold gBd
  by_cases e : s = t
  · subst e
    rw [if_pos rfl, rbd, if_pos (by omega)]
  · rw [if_neg e]; exact h s t hs ht e
theorem rbd_lt {r : Nat} {bd : Nat → Nat} (h : BDok r bd) : ∀ i, i < 25 → rbd bd i < 100 := by
  intro i hi
  have := h.1 i hi
  unfold rbd
  split
  · decide
  · split
    · decide
    · omega

set_option maxHeartbeats 4000000 in
/-- the reference's call of group behind the class's -/
theorem cs_group9 {G : GG} {j nw nx gn nwd nxd : Nat} {g : Nat → Sh} {c d : Nat → Nat → Int} {post : Option AV → AM → Prop} {BL : BB} {P : GD} {T : PT} {ln : Nat} {bo : Nat → Nat} {n : Nat} {nb : Nat → Nat} {MT : Nat} {MA : Nat} {ii : Nat} (hcl : HCls) (hB1 : BL.1 ≤ BL.2.2.1) (hB2 : BL.2.1 ≤ BL.2.2.2) (hv : INV c nw nx P T ln bo n nb MT MA) (hd : ∀ a, 48 < a → d a = c a) {z : Int}
    (KF : (glP nb n 300 0 0 0 (fun _ => 0)).1 ≠ 0 → ∀ c2 : Nat → Nat → Int, FIN d c2 → RMx c2 (glP nb n 300 0 0 0 (fun _ => 0)).1 (glP nb n 300 0 0 0 (fun _ => 0)).2.1 (gR P) ln bo → LAYd c2 P → z = -4 ∧ SW G (j + 40) mL_law 2308 [some (vf 0), some (vr (0)), some (vr (49)), some (vi (((ii : Nat) : Int)))] [] (S nwd nxd g, 78 + gn, c2) BL post)
    (KB : (glP nb n 300 0 0 0 (fun _ => 0)).1 = 0 → 0 < (glP nb n 300 0 0 0 (fun _ => 0)).2.2.1 → ¬ CLSg (glP nb n 300 0 0 0 (fun _ => 0)).2.2.1 (rbd (glP nb n 300 0 0 0 (fun _ => 0)).2.2.2.2) → ∀ c2 : Nat → Nat → Int, FIN d c2 → RMx c2 0 (-1) (gR P) ln bo → LAYd c2 P → z = -5 ∧ SW G (j + 40) mL_law 2308 [some (vf 0), some (vr (0)), some (vr (49)), some (vi (((ii : Nat) : Int)))] [] (S nwd nxd g, 78 + gn, c2) BL post)
    (KG : (glP nb n 300 0 0 0 (fun _ => 0)).1 = 0 → ∀ P2 : GD, (((glP nb n 300 0 0 0 (fun _ => 0)).2.2.1 = 0 ∧ P2 = P0) ∨ (0 < (glP nb n 300 0 0 0 (fun _ => 0)).2.2.1 ∧ CLSg (glP nb n 300 0 0 0 (fun _ => 0)).2.2.1 (rbd (glP nb n 300 0 0 0 (fun _ => 0)).2.2.2.2) ∧ P2 = PickP (glP nb n 300 0 0 0 (fun _ => 0)).2.2.1 (rbd (glP nb n 300 0 0 0 (fun _ => 0)).2.2.2.2))) → STP P2 (glP nb n 300 0 0 0 (fun _ => 0)).2.2.2.1 → gR P2 = (glP nb n 300 0 0 0 (fun _ => 0)).2.2.1 → (∀ s t, s < gR P2 → t < gR P2 → s ≠ t → rbd (glP nb n 300 0 0 0 (fun _ => 0)).2.2.2.2 (5 * s + t) = gB P2 s t) → ∀ c2 : Nat → Nat → Int, FIN d c2 → RMx c2 0 (-1) (glP nb n 300 0 0 0 (fun _ => 0)).2.2.1 (glP nb n 300 0 0 0 (fun _ => 0)).2.2.2.1 (rbd (glP nb n 300 0 0 0 (fun _ => 0)).2.2.2.2) → LAYd c2 P2 → z = ((gN P2 : Nat) : Int) ∧ SW G (j + 40) mL_law 2308 [some (vf 0), some (vr (0)), some (vr (49)), some (vi (((ii : Nat) : Int)))] [] (S nwd nxd g, 78 + gn, (MG9 c2)) BL post) : SW G (j + 40) mL_law 406 [some (vf 0), some (vr (0)), some (vr (49)), some (vi (((ii : Nat) : Int)))] [vi z] (S nwd nxd g, 78 + gn, d) BL post := by
  obtain ⟨⟨⟨hS1, hS2, hn⟩, hB, hT⟩, hIP, ⟨⟨fk, fp, bw, ra, rb, rt, rv, rz, hRM⟩, im, bh, ah, lo, fr, la, bk, mo, sp, mm, nn, tp, hb, hLM⟩, hIE, ⟨hwx, hSP, hFC, hbo, hbl, hE, hM, hln⟩, _, _⟩ := hv
  refine sw_aload_n (dL_law_1.at 48 rfl) rfl rfl ?_
  refine sw_callV (B' := BL) (As := []) (mc := 0) (ms := 0) (dL_law_1.at 49 rfl) lk_L_27 (S_lt 49 (by decide)) (S_49 nwd nxd g) rfl rfl (Nat.le_of_ble_eq_true rfl) rfl hB1 hB2 ?_
  have hLM2 : LMc d im bh ah lo fr la bk mo sp mm nn tp hb := by
    unfold LMc
    rw [hd 49 (by decide), hd 53 (by decide), hd 54 (by decide), hd 55 (by decide), hd 56 (by decide), hd 57 (by decide), hd 58 (by decide), hd 59 (by decide), hd 60 (by decide), hd 61 (by decide)]
    exact hLM
  refine c_X9_group (j := j + 32) (nb := nb) (n := n) (P := P) ?_ hn hB (fun i hi => ?_) (RMc_row hRM (hd 49 (by decide)) (hd 51 (by decide)) (hd 52 (by decide))) hLM2 hcl hbl rfl hSP (fun s t hs ht hne => ?_) (fun q c2 f1 f2 f3 => ?_) (fun q q2 q3 _ c2 f1 f2 f3 => ?_) (fun q P2 q2 q3 q4 q5 c2 f1 f2 f3 => ?_)
  · rw [hd 49 (by decide)]; exact hS2
  · rw [hd 50 (by decide)]; exact (hT i hi).2
  · have e := hbo s t hs ht
    rw [gBd, if_neg hne] at e
    exact e
  · obtain ⟨rfl, k⟩ := KF q c2 f1 f2 f3
    exact sw_icmp_same (tgt := 2308) (dL_law_2.at 0 rfl) (by decide) k
  · obtain ⟨rfl, k⟩ := KB q q2 q3 c2 f1 f2 f3
    exact sw_icmp_same (tgt := 2308) (dL_law_2.at 0 rfl) (by decide) k
  · obtain ⟨rfl, k⟩ := KG q P2 q2 q3 q4 q5 c2 f1 f2 f3
    exact sw_icmp_same (tgt := 2308) (dL_law_2.at 0 rfl) (by decide) k
set_option maxHeartbeats 8000000 in
theorem cs_group {G : GG} {j nw nx gn : Nat} {g : Nat → Sh} {c : Nat → Nat → Int} {post : Option AV → AM → Prop} {BL : BB} {P : GD} {T : PT} {ln : Nat} {bo : Nat → Nat} {n : Nat} {nb : Nat → Nat} {MT : Nat} {MA : Nat} {ii : Nat} (hcl : HCls) (hB1 : BL.1 ≤ BL.2.2.1) (hB2 : BL.2.1 ≤ BL.2.2.2) (hv : INV c nw nx P T ln bo n nb MT MA) (K : ∀ (nw2 nx2 : Nat) (c2 : Nat → Nat → Int), EINV c2 nw2 nx2 → SW G (j + 40) mL_law 2308 [some (vf 0), some (vr (0)), some (vr (49)), some (vi (((ii : Nat) : Int)))] [] (S nw2 nx2 g, 78 + gn, c2) BL post) : SW G (j + 40) mL_law 402 [some (vf 0), some (vr (0)), some (vr (49)), some (vi (((ii : Nat) : Int)))] [] (S nw nx g, 78 + gn, c) BL post := by
  have hv0 := hv
  obtain ⟨hIT, hIP, hIR, hIE, ⟨hwx, hSP, ⟨⟨hV, hC, hDn, hSi⟩, ⟨hOr, hMi, hSp, hBr, hBt⟩, ⟨hLa, hGP, hP0, hHT⟩, hMv⟩, hbo, hbl, hE, hM, hln⟩, ⟨hPR, hCR, hRR⟩, hIM⟩ := hv
  have hIM0 := hIM
  obtain ⟨⟨hMT60, hMA30, hMA0, hMf, hMs⟩, ⟨hM1, hM2, hM3, hM4⟩, hM5, hM6⟩ := hIM
  have hnw : nw = 21 ∨ nw = 35 := by omega
  have hRb := hC.1.1
  have hLn := hC.1.2
  have hLn2 : ∀ s, s < gR P → s + 1 < gN P := hC.1.2
  have hnx : nx = 21 ∨ nx = 35 := by omega
  obtain ⟨⟨hS1, hS2, hn⟩, hB, hT⟩ := hIT
  obtain ⟨⟨tk, tf, tt, rr, ll, ff, bd, a1, a2, a3⟩, a4, a5⟩ := hIP
  have ep := pm_of (pl := c 3 4) a1 a2 rfl a3
  have hok := glP_ok (nb := nb) (n := n) 300 0 0 0 (fun _ => 0) (Nat.zero_le _) (by decide) (by decide) BDok_0
  have hEx : EMk c nx := by
    rcases hwx with ⟨_, h⟩ | ⟨_, h⟩
    · rw [h]; exact hIE.2
    · rw [h]; exact hIE.1
  have hEM : EMk (pm c tk tf tt rr ll ff (c 3 4) bd) nx := EMk_same hEx (fun q hq => pm_off (by omega) (by omega) (by omega))
  refine sw_aload_n (dL_law_1.at 46 rfl) rfl rfl ?_
  refine SW.cg (congrArg (fun m => (S nw nx g, 78 + gn, m)) ep) ?_
  refine sw_callV (B' := BL) (As := []) (mc := 0) (ms := 0) (dL_law_1.at 47 rfl) lk_L_23 (S_lt 0 (by decide)) (S_0 nw nx g) rfl rfl (Nat.le_of_ble_eq_true rfl) rfl hB1 hB2 ?_
  refine c_X8_group (j := j + 32) (nb := nb) (n := n) hS1 hn hB (fun i hi => (hT i hi).1) hnw hnx hEM hcl (fun q tk tf tt rr ll bd => ?_) (fun q q1 tk tf tt be le hd ls st pr iv fa eb ml mf rw dn rk mn mm hel => ?_) (fun q q1 q2 _ _ _ tk tf tt be le hd ls st pr iv fa eb ml mf rw dn rk mn mm => ?_) (fun q q1 q2 P2 T2 q3 q4 _ q6 q7 tk tf tt be le hd ls st pr iv fa eb ml mf rw dn rk mn mm hel => ?_)
  · refine cs_group9 hcl hB1 hB2 hv0 (fun a ha => D1_off (by omega) (by omega) (by omega)) (fun _ c2 f1 f2 f3 => ⟨rfl, ?_⟩) (fun z => absurd z q) (fun z => absurd z q)
    exact K _ _ _ (INV_gf hv0 rfl rfl rfl (fun a h1 h3 h4 _ => D1_off h1 h3 h4) (EMk_same hEx (fun k hk => D1_off (by omega) (by omega) (by omega))) f1 f2 f3)
  · have o : ∀ a, a ≠ 1 → a ≠ 3 → a ≠ 4 → (a ≠ 0 ∧ a ≠ 5 ∧ a ≠ 7 ∧ a ≠ 15 ∧ a ≠ 19) → (a < nx ∨ nx + 13 < a) → MG (em (up2 (pm c tk tf tt (glP nb n 300 0 0 0 (fun _ => 0)).2.2.1 (glP nb n 300 0 0 0 (fun _ => 0)).2.2.2.1 0 (-1) (glP nb n 300 0 0 0 (fun _ => 0)).2.2.2.2) 1 1 0) nx be le hd ls st pr iv fa eb ml mf rw dn 0 0 0) (glP nb n 300 0 0 0 (fun _ => 0)).2.2.2.1 a = c a := fun a h1 h3 h4 h5 h6 => by
      rw [MG_off _ _ h5]
      funext i
      rw [em_ne (fun k hk => by omega), D1_off h1 h3 h4]
    have e : ∀ a, a = 1 ∨ a = 3 ∨ a = 4 → MG (em (up2 (pm c tk tf tt (glP nb n 300 0 0 0 (fun _ => 0)).2.2.1 (glP nb n 300 0 0 0 (fun _ => 0)).2.2.2.1 0 (-1) (glP nb n 300 0 0 0 (fun _ => 0)).2.2.2.2) 1 1 0) nx be le hd ls st pr iv fa eb ml mf rw dn 0 0 0) (glP nb n 300 0 0 0 (fun _ => 0)).2.2.2.1 a = (up2 (pm c tk tf tt (glP nb n 300 0 0 0 (fun _ => 0)).2.2.1 (glP nb n 300 0 0 0 (fun _ => 0)).2.2.2.1 0 (-1) (glP nb n 300 0 0 0 (fun _ => 0)).2.2.2.2) 1 1 0) a := fun a ha => by
      rw [MG_off _ _ (by omega)]
      funext i
      rw [em_ne (fun k hk => by omega)]
    refine cs_group9 hcl hB1 hB2 hv0 (fun a ha => o a (by omega) (by omega) (by omega) (by omega) (by omega)) (fun z => absurd q z) (fun _ z => absurd z (by omega)) (fun _ P2 c1 c2' c3 c4 c2 f1 f2 f3 => ?_)
    rcases c1 with ⟨_, rfl⟩ | ⟨z, _⟩
    · refine ⟨rfl, K _ _ _ (INV_gn hv0 (e 1 (by omega)) (e 3 (by omega)) (e 4 (by omega)) o (EMk_same EMk_em (fun k hk => MG_off _ _ (by omega))) (EL_same hel (fun k hk => MG_off _ _ (by omega))) (MG_v _ _) f1 (c3 ▸ f2) f3 c2' (rbd_bd c4) (rbd_lt (hok.2 q).2.2.2.1))⟩
    · omega
  · have o : ∀ a, a ≠ 1 → a ≠ 3 → a ≠ 4 → (a < nx ∨ nx + 13 < a) → em (up2 (pm c tk tf tt (glP nb n 300 0 0 0 (fun _ => 0)).2.2.1 (glP nb n 300 0 0 0 (fun _ => 0)).2.2.2.1 0 (-1) (glP nb n 300 0 0 0 (fun _ => 0)).2.2.2.2) 1 1 0) nx be le hd ls st pr iv fa eb ml mf rw dn rk mn mm a = c a := fun a h1 h3 h4 h6 => by
      funext i
      rw [em_ne (fun k hk => by omega), D1_off h1 h3 h4]
    have e : ∀ a, a = 1 ∨ a = 3 ∨ a = 4 → em (up2 (pm c tk tf tt (glP nb n 300 0 0 0 (fun _ => 0)).2.2.1 (glP nb n 300 0 0 0 (fun _ => 0)).2.2.2.1 0 (-1) (glP nb n 300 0 0 0 (fun _ => 0)).2.2.2.2) 1 1 0) nx be le hd ls st pr iv fa eb ml mf rw dn rk mn mm a = (up2 (pm c tk tf tt (glP nb n 300 0 0 0 (fun _ => 0)).2.2.1 (glP nb n 300 0 0 0 (fun _ => 0)).2.2.2.1 0 (-1) (glP nb n 300 0 0 0 (fun _ => 0)).2.2.2.2) 1 1 0) a := fun a ha => by
      funext i
      rw [em_ne (fun k hk => by omega)]
    refine cs_group9 hcl hB1 hB2 hv0 (fun a ha => o a (by omega) (by omega) (by omega) (by omega)) (fun z => absurd q z) (fun _ _ _ c2 f1 f2 f3 => ⟨rfl, ?_⟩) (fun _ P2 c1 c2' c3 c4 c2 f1 f2 f3 => ?_)
    · exact K _ _ _ (INV_gf hv0 (e 1 (by omega)) (e 3 (by omega)) (e 4 (by omega)) o EMk_em f1 f2 f3)
    · rcases c1 with ⟨z, _⟩ | ⟨_, z, _⟩
      · omega
      · exact absurd z q2
  · have o : ∀ a, a ≠ 1 → a ≠ 3 → a ≠ 4 → (a ≠ 0 ∧ a ≠ 5 ∧ a ≠ 7 ∧ a ≠ 15 ∧ a ≠ 19) → (a < nx ∨ nx + 13 < a) → MG (em (up2 (pm c tk tf tt (glP nb n 300 0 0 0 (fun _ => 0)).2.2.1 (glP nb n 300 0 0 0 (fun _ => 0)).2.2.2.1 0 (-1) (glP nb n 300 0 0 0 (fun _ => 0)).2.2.2.2) 1 1 0) nx be le hd ls st pr iv fa eb ml mf rw dn (gR P2) (gN P2) (gM P2)) (glP nb n 300 0 0 0 (fun _ => 0)).2.2.2.1 a = c a := fun a h1 h3 h4 h5 h6 => by
      rw [MG_off _ _ h5]
      funext i
      rw [em_ne (fun k hk => by omega), D1_off h1 h3 h4]
    have e : ∀ a, a = 1 ∨ a = 3 ∨ a = 4 → MG (em (up2 (pm c tk tf tt (glP nb n 300 0 0 0 (fun _ => 0)).2.2.1 (glP nb n 300 0 0 0 (fun _ => 0)).2.2.2.1 0 (-1) (glP nb n 300 0 0 0 (fun _ => 0)).2.2.2.2) 1 1 0) nx be le hd ls st pr iv fa eb ml mf rw dn (gR P2) (gN P2) (gM P2)) (glP nb n 300 0 0 0 (fun _ => 0)).2.2.2.1 a = (up2 (pm c tk tf tt (glP nb n 300 0 0 0 (fun _ => 0)).2.2.1 (glP nb n 300 0 0 0 (fun _ => 0)).2.2.2.1 0 (-1) (glP nb n 300 0 0 0 (fun _ => 0)).2.2.2.2) 1 1 0) a := fun a ha => by
      rw [MG_off _ _ (by omega)]
      funext i
      rw [em_ne (fun k hk => by omega)]
    refine cs_group9 hcl hB1 hB2 hv0 (fun a ha => o a (by omega) (by omega) (by omega) (by omega) (by omega)) (fun z => absurd q z) (fun _ _ z => absurd q3 z) (fun _ P3 c1 c2' c3 c4 c2 f1 f2 f3 => ?_)
    rcases c1 with ⟨z, _⟩ | ⟨_, _, z⟩
    · omega
    · rw [← q4] at z
      subst z
      exact ⟨rfl, K _ _ _ (INV_gn hv0 (e 1 (by omega)) (e 3 (by omega)) (e 4 (by omega)) o (EMk_same EMk_em (fun k hk => MG_off _ _ (by omega))) (EL_same hel (fun k hk => MG_off _ _ (by omega))) (MG_v _ _) f1 (c3 ▸ f2) f3 c2' (rbd_bd c4) (rbd_lt (hok.2 q).2.2.2.1))⟩

