theorem upZ_ne {c : Nat → Nat → Int} {n i k : Nat} (h : i ≠ n) : upZ c n i k = c i k := if_neg h
/-- the numbers behind the constructors -/
def cI (i k : Nat) : Int := if (i = 3 ∧ k = 4) ∨ (i = 19 ∧ k < 3) ∨ (i = 49 ∧ k = 3) then -1 else 0
set_option maxHeartbeats 40000000 in
set_option maxRecDepth 100000 in
theorem c_X8_init {G : GG} {j : Nat} {sh : Nat → Sh} {c : Nat → Nat → Int} {post : Option AV → AM → Prop} (K : ∀ M : AM, M.2.1 = 49 → (∀ i, i < 49 → M.1 i = (tabS 21 35).getD i (.inl (0, 0))) → (∀ i, 49 ≤ i → M.1 i = sh i) → (∀ i k, i < 49 → M.2.2 i k = cI i k) → (∀ i k, 49 ≤ i → M.2.2 i k = c i k) → post none M) : SM G (j + 3) mX8_init [vr 0] (upS sh 0 (.inr (8, List.replicate 11 none)), 1, upZ c 0) 48 40279 post := by
  refine sm_of wX8_init rfl (Nat.le_of_ble_eq_true rfl) ?_
  refine sw_aload_n (dX8_init.at 0 rfl) rfl rfl ?_
  refine sw_objInit (dX8_init.at 1 rfl) lk_X8_1 oi1 oi2 (Nat.le_of_ble_eq_true rfl) ?_
  refine sw_aload_n (dX8_init.at 2 rfl) rfl rfl ?_
  refine sw_new (N := 5) (dX8_init.at 3 rfl) nc_X8_7 rfl (Nat.le_of_ble_eq_true rfl) (Nat.le_of_ble_eq_true rfl) ?_
  refine sw_dup (dX8_init.at 4 rfl) (fun _ h => by cases h) ?_
  refine sw_callI (As := []) (mc := 1) (ms := 300) (dX8_init.at 5 rfl) lk_X8_9 rfl rfl (Nat.le_of_ble_eq_true rfl) rfl (Nat.le_of_ble_eq_true rfl) (Nat.le_of_ble_eq_true rfl) ?_
  refine c_X6_init (j := j + 1) (a := 1) (n := 2) (by decide) rfl ?_
  refine sw_putR (dX8_init.at 6 rfl) fp_X8_10 (fun _ => ⟨rfl, _, rfl, rfl⟩) (Or.inl ⟨_, rfl⟩) (Nat.le_of_ble_eq_true rfl) rfl rfl (Nat.le_of_ble_eq_true rfl) ?_
  refine sw_aload_n (dX8_init.at 7 rfl) rfl rfl ?_
  refine sw_new (N := 5) (dX8_init.at 8 rfl) nc_X8_16 rfl (Nat.le_of_ble_eq_true rfl) (Nat.le_of_ble_eq_true rfl) ?_
  refine sw_dup (dX8_init.at 9 rfl) (fun _ h => by cases h) ?_
  refine sw_callI (As := []) (mc := 1) (ms := 25) (dX8_init.at 10 rfl) lk_X8_18 rfl rfl (Nat.le_of_ble_eq_true rfl) rfl (Nat.le_of_ble_eq_true rfl) (Nat.le_of_ble_eq_true rfl) ?_
  refine c_X7_init (j := j + 1) (a := 3) (n := 4) (by decide) rfl ?_
  refine sw_putR (dX8_init.at 11 rfl) fp_X8_19 (fun _ => ⟨rfl, _, rfl, rfl⟩) (Or.inl ⟨_, rfl⟩) (Nat.le_of_ble_eq_true rfl) rfl rfl (Nat.le_of_ble_eq_true rfl) ?_
  refine sw_aload_n (dX8_init.at 12 rfl) rfl rfl ?_
  refine sw_new (N := 2) (dX8_init.at 13 rfl) nc_X8_23 rfl (Nat.le_of_ble_eq_true rfl) (Nat.le_of_ble_eq_true rfl) ?_
  refine sw_dup (dX8_init.at 14 rfl) (fun _ h => by cases h) ?_
  refine sw_callI (As := []) (mc := 1) (ms := 28800) (dX8_init.at 15 rfl) lk_X8_25 rfl rfl (Nat.le_of_ble_eq_true rfl) rfl (Nat.le_of_ble_eq_true rfl) (Nat.le_of_ble_eq_true rfl) ?_
  refine c_X4_init (j := j + 1) (a := 5) (n := 6) (by decide) rfl ?_
  refine sw_putR (dX8_init.at 16 rfl) fp_X8_26 (fun _ => ⟨rfl, _, rfl, rfl⟩) (Or.inl ⟨_, rfl⟩) (Nat.le_of_ble_eq_true rfl) rfl rfl (Nat.le_of_ble_eq_true rfl) ?_
  refine sw_aload_n (dX8_init.at 17 rfl) rfl rfl ?_
  refine sw_new (N := 2) (dX8_init.at 18 rfl) nc_X8_30 rfl (Nat.le_of_ble_eq_true rfl) (Nat.le_of_ble_eq_true rfl) ?_
  refine sw_dup (dX8_init.at 19 rfl) (fun _ h => by cases h) ?_
  refine sw_callI (As := []) (mc := 1) (ms := 180) (dX8_init.at 20 rfl) lk_X8_32 rfl rfl (Nat.le_of_ble_eq_true rfl) rfl (Nat.le_of_ble_eq_true rfl) (Nat.le_of_ble_eq_true rfl) ?_
  refine c_X0_init (j := j + 1) (a := 7) (n := 8) (by decide) rfl ?_
  refine sw_putR (dX8_init.at 21 rfl) fp_X8_33 (fun _ => ⟨rfl, _, rfl, rfl⟩) (Or.inl ⟨_, rfl⟩) (Nat.le_of_ble_eq_true rfl) rfl rfl (Nat.le_of_ble_eq_true rfl) ?_
  refine sw_aload_n (dX8_init.at 22 rfl) rfl rfl ?_
  refine sw_new (N := 1) (dX8_init.at 23 rfl) nc_X8_37 rfl (Nat.le_of_ble_eq_true rfl) (Nat.le_of_ble_eq_true rfl) ?_
  refine sw_dup (dX8_init.at 24 rfl) (fun _ h => by cases h) ?_
  refine sw_callI (As := []) (mc := 1) (ms := 960) (dX8_init.at 25 rfl) lk_X8_39 rfl rfl (Nat.le_of_ble_eq_true rfl) rfl (Nat.le_of_ble_eq_true rfl) (Nat.le_of_ble_eq_true rfl) ?_
  refine c_X2_init (j := j + 1) (a := 9) (n := 10) (by decide) rfl ?_
  refine sw_putR (dX8_init.at 26 rfl) fp_X8_40 (fun _ => ⟨rfl, _, rfl, rfl⟩) (Or.inl ⟨_, rfl⟩) (Nat.le_of_ble_eq_true rfl) rfl rfl (Nat.le_of_ble_eq_true rfl) ?_
  refine sw_aload_n (dX8_init.at 27 rfl) rfl rfl ?_
  refine sw_new (N := 5) (dX8_init.at 28 rfl) nc_X8_44 rfl (Nat.le_of_ble_eq_true rfl) (Nat.le_of_ble_eq_true rfl) ?_
  refine sw_dup (dX8_init.at 29 rfl) (fun _ h => by cases h) ?_
  refine sw_callI (As := []) (mc := 3) (ms := 720) (dX8_init.at 30 rfl) lk_X8_46 rfl rfl (Nat.le_of_ble_eq_true rfl) rfl (Nat.le_of_ble_eq_true rfl) (Nat.le_of_ble_eq_true rfl) ?_
  refine c_X5_init (j := j + 1) (a := 11) (n := 12) (by decide) rfl ?_
  refine sw_putR (dX8_init.at 31 rfl) fp_X8_47 (fun _ => ⟨rfl, _, rfl, rfl⟩) (Or.inl ⟨_, rfl⟩) (Nat.le_of_ble_eq_true rfl) rfl rfl (Nat.le_of_ble_eq_true rfl) ?_
  refine sw_aload_n (dX8_init.at 32 rfl) rfl rfl ?_
  refine sw_new (N := 6) (dX8_init.at 33 rfl) nc_X8_51 rfl (Nat.le_of_ble_eq_true rfl) (Nat.le_of_ble_eq_true rfl) ?_
  refine sw_dup (dX8_init.at 34 rfl) (fun _ h => by cases h) ?_
  refine sw_callI (As := []) (mc := 4) (ms := 126) (dX8_init.at 35 rfl) lk_X8_53 rfl rfl (Nat.le_of_ble_eq_true rfl) rfl (Nat.le_of_ble_eq_true rfl) (Nat.le_of_ble_eq_true rfl) ?_
  refine c_X3_init (j := j + 0) (a := 15) (n := 16) (by decide) rfl ?_
  refine sw_putR (dX8_init.at 36 rfl) fp_X8_54 (fun _ => ⟨rfl, _, rfl, rfl⟩) (Or.inl ⟨_, rfl⟩) (Nat.le_of_ble_eq_true rfl) rfl rfl (Nat.le_of_ble_eq_true rfl) ?_
  refine sw_aload_n (dX8_init.at 37 rfl) rfl rfl ?_
  refine sw_bipush (dX8_init.at 38 rfl) (by decide) ?_
  refine sw_newL (len := 60) (dX8_init.at 39 rfl) rfl (by decide) (Nat.le_of_ble_eq_true rfl) (Nat.le_of_ble_eq_true rfl) ?_
  refine sw_putR (dX8_init.at 40 rfl) fp_X8_58 (fun _ => ⟨rfl, _, rfl, rfl⟩) (Or.inr ⟨_, rfl⟩) (Nat.le_of_ble_eq_true rfl) rfl rfl (Nat.le_of_ble_eq_true rfl) ?_
  refine sw_aload_n (dX8_init.at 41 rfl) rfl rfl ?_
  refine sw_new (N := 16) (dX8_init.at 42 rfl) nc_X8_62 rfl (Nat.le_of_ble_eq_true rfl) (Nat.le_of_ble_eq_true rfl) ?_
  refine sw_dup (dX8_init.at 43 rfl) (fun _ h => by cases h) ?_
  refine sw_callI (As := []) (mc := 13) (ms := 4525) (dX8_init.at 44 rfl) lk_X8_64 rfl rfl (Nat.le_of_ble_eq_true rfl) rfl (Nat.le_of_ble_eq_true rfl) (Nat.le_of_ble_eq_true rfl) ?_
  refine c_X1_init (j := j + 1) (a := 21) (n := 22) (by decide) rfl ?_
  refine sw_putR (dX8_init.at 45 rfl) fp_X8_65 (fun _ => ⟨rfl, _, rfl, rfl⟩) (Or.inl ⟨_, rfl⟩) (Nat.le_of_ble_eq_true rfl) rfl rfl (Nat.le_of_ble_eq_true rfl) ?_
  refine sw_aload_n (dX8_init.at 46 rfl) rfl rfl ?_
  refine sw_new (N := 16) (dX8_init.at 47 rfl) nc_X8_62 rfl (Nat.le_of_ble_eq_true rfl) (Nat.le_of_ble_eq_true rfl) ?_
  refine sw_dup (dX8_init.at 48 rfl) (fun _ h => by cases h) ?_
  refine sw_callI (As := []) (mc := 13) (ms := 4525) (dX8_init.at 49 rfl) lk_X8_64 rfl rfl (Nat.le_of_ble_eq_true rfl) rfl (Nat.le_of_ble_eq_true rfl) (Nat.le_of_ble_eq_true rfl) ?_
  refine c_X1_init (j := j + 1) (a := 35) (n := 36) (by decide) rfl ?_
  refine sw_putR (dX8_init.at 50 rfl) fp_X8_69 (fun _ => ⟨rfl, _, rfl, rfl⟩) (Or.inl ⟨_, rfl⟩) (Nat.le_of_ble_eq_true rfl) rfl rfl (Nat.le_of_ble_eq_true rfl) ?_
  refine sw_aload_n (dX8_init.at 51 rfl) rfl rfl ?_
  refine sw_iconst (dX8_init.at 52 rfl) ?_
  refine sw_putI (dX8_init.at 53 rfl) fp_X8_72 (Nat.le_of_ble_eq_true rfl) rfl rfl ?_
  refine sw_vret (dX8_init.at 54 rfl) rfl (Nat.le_of_ble_eq_true rfl) (Nat.le_of_ble_eq_true rfl) ?_
  refine K _ rfl (fun i hi => ?_) (fun i hi => ?_) (fun i k hi => ?_) (fun i k hi => ?_)
  · obtain rfl | rfl | rfl | rfl | rfl | rfl | rfl | rfl | rfl | rfl | rfl | rfl | rfl | rfl | rfl | rfl | rfl | rfl | rfl | rfl | rfl | rfl | rfl | rfl | rfl | rfl | rfl | rfl | rfl | rfl | rfl | rfl | rfl | rfl | rfl | rfl | rfl | rfl | rfl | rfl | rfl | rfl | rfl | rfl | rfl | rfl | rfl | rfl | rfl : i = 0 ∨ i = 1 ∨ i = 2 ∨ i = 3 ∨ i = 4 ∨ i = 5 ∨ i = 6 ∨ i = 7 ∨ i = 8 ∨ i = 9 ∨ i = 10 ∨ i = 11 ∨ i = 12 ∨ i = 13 ∨ i = 14 ∨ i = 15 ∨ i = 16 ∨ i = 17 ∨ i = 18 ∨ i = 19 ∨ i = 20 ∨ i = 21 ∨ i = 22 ∨ i = 23 ∨ i = 24 ∨ i = 25 ∨ i = 26 ∨ i = 27 ∨ i = 28 ∨ i = 29 ∨ i = 30 ∨ i = 31 ∨ i = 32 ∨ i = 33 ∨ i = 34 ∨ i = 35 ∨ i = 36 ∨ i = 37 ∨ i = 38 ∨ i = 39 ∨ i = 40 ∨ i = 41 ∨ i = 42 ∨ i = 43 ∨ i = 44 ∨ i = 45 ∨ i = 46 ∨ i = 47 ∨ i = 48 := by omega
    all_goals rfl
  · repeat (refine (upS_ne (by omega)).trans ?_)
    rfl
  · obtain rfl | rfl | rfl | rfl | rfl | rfl | rfl | rfl | rfl | rfl | rfl | rfl | rfl | rfl | rfl | rfl | rfl | rfl | rfl | rfl | rfl | rfl | rfl | rfl | rfl | rfl | rfl | rfl | rfl | rfl | rfl | rfl | rfl | rfl | rfl | rfl | rfl | rfl | rfl | rfl | rfl | rfl | rfl | rfl | rfl | rfl | rfl | rfl | rfl : i = 0 ∨ i = 1 ∨ i = 2 ∨ i = 3 ∨ i = 4 ∨ i = 5 ∨ i = 6 ∨ i = 7 ∨ i = 8 ∨ i = 9 ∨ i = 10 ∨ i = 11 ∨ i = 12 ∨ i = 13 ∨ i = 14 ∨ i = 15 ∨ i = 16 ∨ i = 17 ∨ i = 18 ∨ i = 19 ∨ i = 20 ∨ i = 21 ∨ i = 22 ∨ i = 23 ∨ i = 24 ∨ i = 25 ∨ i = 26 ∨ i = 27 ∨ i = 28 ∨ i = 29 ∨ i = 30 ∨ i = 31 ∨ i = 32 ∨ i = 33 ∨ i = 34 ∨ i = 35 ∨ i = 36 ∨ i = 37 ∨ i = 38 ∨ i = 39 ∨ i = 40 ∨ i = 41 ∨ i = 42 ∨ i = 43 ∨ i = 44 ∨ i = 45 ∨ i = 46 ∨ i = 47 ∨ i = 48 := by omega
    all_goals first | rfl | (simp [up2, upZ, cI]; done) | (have hk : k = 0 ∨ k = 1 ∨ k = 2 ∨ 3 ≤ k := (by omega); rcases hk with rfl | rfl | rfl | hk; rfl; rfl; rfl; (have h0 : k ≠ 0 := (by omega); have h1 : k ≠ 1 := (by omega); have h2 : k ≠ 2 := (by omega); have h3 : ¬ k < 3 := (by omega); simp [up2, upZ, cI, h0, h1, h2, h3]; done))
  · repeat (first | refine (upZ_ne (by omega)).trans ?_ | refine (up2_ne (Or.inl (by omega))).trans ?_)
    rfl

