theorem S_of {nw nx : Nat} {f : Nat → Sh} (h : ∀ i, i < 78 → f i = (tabS nw nx).getD i (.inl (0, 0))) : f = S nw nx f := by
  funext i
  unfold S
  by_cases h1 : i < 78
  · rw [if_pos h1, h i h1]
  · rw [if_neg h1]
set_option maxHeartbeats 40000000 in
set_option maxRecDepth 100000 in
theorem law_0 {G : GG} {j : Nat} {sh : Nat → Sh} {c : Nat → Nat → Int} {post : Option AV → AM → Prop} (K : ∀ (g : Nat → Sh) (c0 : Nat → Nat → Int), (∀ i k, i < 78 → c0 i k = cI i k) → SW G (j + 12) mL_law 18 [some (vf 0), some (vr 0), some (vr 49), some (vi 0)] [] (S 21 35 g, 78, c0) (78, 128873, 600000, 7302250) post) : SW G (j + 12) mL_law 0 [some (vf 0), none, none, none] [] (sh, 0, c) (0, 0, 600000, 7302250) post := by
  refine sw_new (N := 11) (dL_law_0.at 0 rfl) nc_L_7 rfl (Nat.le_of_ble_eq_true rfl) (Nat.le_of_ble_eq_true rfl) ?_
  refine sw_dup (dL_law_0.at 1 rfl) (fun _ h => by cases h) ?_
  refine sw_callI (As := []) (mc := 48) (ms := 40279) (dL_law_0.at 2 rfl) lk_L_9 rfl rfl (Nat.le_of_ble_eq_true rfl) rfl (Nat.le_of_ble_eq_true rfl) (Nat.le_of_ble_eq_true rfl) ?_
  refine c_X8_init (j := j + 9) (fun M m1 m2 m3 m4 m5 => ?_)
  obtain ⟨sh1, n1, c1⟩ := M
  have e1 : n1 = 49 := m1
  subst e1
  refine sw_astore_n (lo' := [some (vf 0), some (vr 0), none, none]) (dL_law_0.at 3 rfl) rfl (by decide) rfl ?_
  refine sw_new (N := 45) (dL_law_0.at 4 rfl) nc_L_10 rfl (Nat.le_of_ble_eq_true rfl) (Nat.le_of_ble_eq_true rfl) ?_
  refine sw_dup (dL_law_0.at 5 rfl) (fun _ h => by cases h) ?_
  refine sw_callI (As := []) (mc := 28) (ms := 88538) (dL_law_0.at 6 rfl) lk_L_12 rfl rfl (Nat.le_of_ble_eq_true rfl) rfl (Nat.le_of_ble_eq_true rfl) (Nat.le_of_ble_eq_true rfl) ?_
  refine c_X9_init (j := j + 11) (a := 49) (n := 50) (by decide) upS_eq ?_
  refine sw_astore_n (lo' := [some (vf 0), some (vr 0), some (vr 49), none]) (dL_law_0.at 7 rfl) rfl (by decide) rfl ?_
  refine sw_iconst (dL_law_0.at 8 rfl) ?_
  refine sw_istore_n (lo' := [some (vf 0), some (vr 0), some (vr 49), some (vi 0)]) (dL_law_0.at 9 rfl) rfl (by decide) rfl ?_
  refine SW.cg (congrArg (fun f => (f, _, _)) (S_of (nw := 21) (nx := 35) (fun i hi => ?_))) (K _ _ (fun i k hi => ?_))
  · by_cases h : i < 49
    · rw [← m2 i h]
      repeat (refine (upS_ne (by omega)).trans ?_)
      rfl
    · obtain rfl | rfl | rfl | rfl | rfl | rfl | rfl | rfl | rfl | rfl | rfl | rfl | rfl | rfl | rfl | rfl | rfl | rfl | rfl | rfl | rfl | rfl | rfl | rfl | rfl | rfl | rfl | rfl | rfl : i = 49 ∨ i = 50 ∨ i = 51 ∨ i = 52 ∨ i = 53 ∨ i = 54 ∨ i = 55 ∨ i = 56 ∨ i = 57 ∨ i = 58 ∨ i = 59 ∨ i = 60 ∨ i = 61 ∨ i = 62 ∨ i = 63 ∨ i = 64 ∨ i = 65 ∨ i = 66 ∨ i = 67 ∨ i = 68 ∨ i = 69 ∨ i = 70 ∨ i = 71 ∨ i = 72 ∨ i = 73 ∨ i = 74 ∨ i = 75 ∨ i = 76 ∨ i = 77 := by omega
      all_goals rfl
  · by_cases h : i < 49
    · rw [← m4 i k h]
      repeat (first | refine (upZ_ne (by omega)).trans ?_ | refine (up2_ne (Or.inl (by omega))).trans ?_)
      rfl
    · obtain rfl | rfl | rfl | rfl | rfl | rfl | rfl | rfl | rfl | rfl | rfl | rfl | rfl | rfl | rfl | rfl | rfl | rfl | rfl | rfl | rfl | rfl | rfl | rfl | rfl | rfl | rfl | rfl | rfl : i = 49 ∨ i = 50 ∨ i = 51 ∨ i = 52 ∨ i = 53 ∨ i = 54 ∨ i = 55 ∨ i = 56 ∨ i = 57 ∨ i = 58 ∨ i = 59 ∨ i = 60 ∨ i = 61 ∨ i = 62 ∨ i = 63 ∨ i = 64 ∨ i = 65 ∨ i = 66 ∨ i = 67 ∨ i = 68 ∨ i = 69 ∨ i = 70 ∨ i = 71 ∨ i = 72 ∨ i = 73 ∨ i = 74 ∨ i = 75 ∨ i = 76 ∨ i = 77 := by omega
      all_goals first | rfl | (simp [up2, upZ, cI]; done)

