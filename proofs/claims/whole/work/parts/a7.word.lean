set_option maxHeartbeats 2000000 in
set_option maxRecDepth 20000 in
theorem g_J0_coder_7d493_2 {G : GG} {j nw nx gn : Nat} {g : Nat → Sh} {c : Nat → Nat → Int} {post : Option AV → AM → Prop}  (hv : post (some (vi (0))) (S nw nx g, 78 + gn, c)) :
    SW G (j + 0) mJ0_coder_7d493 0 [some (vf 2)] [] (S nw nx g, 78 + gn, c) B0 post := by
  refine sw_gcompact (dJ0_coder_7d493.at 0 rfl) fj_J0_38 ?_
  refine sw_if_eq (tgt := 13) (dJ0_coder_7d493.at 1 rfl) (by decide) (by decide) (fun q => ?_) (fun q => ?_)
  · exact absurd q (by decide)
  · clear q
    refine sw_aload_nf (dJ0_coder_7d493.at 2 rfl) rfl rfl ?_
    refine sw_gcoder (i := 0) (by decide) (dJ0_coder_7d493.at 3 rfl) fj_J0_15 ?_
    refine sw_goto (tgt := 14) (dJ0_coder_7d493.at 4 rfl) (by decide) ?_
    exact sw_nret (dJ0_coder_7d493.at 6 rfl) rfl (by decide) (Nat.le_refl _) (Nat.le_refl _) hv

theorem c_J0_coder_7d493_2 {G : GG} {j nw nx gn : Nat} {g : Nat → Sh} {c : Nat → Nat → Int} {post : Option AV → AM → Prop} (K : post (some (vi (0))) (S nw nx g, 78 + gn, c)) : SM G (j + 1) mJ0_coder_7d493 [vf 2] (S nw nx g, 78 + gn, c) 0 0 post := by
  refine sm_of wJ0_coder_7d493 rfl (Nat.le_of_ble_eq_true rfl) ?_
  refine g_J0_coder_7d493_2 ?_
  refine ?_
  all_goals first | exact K | (exact ⟨rfl, K⟩) | rfl | decide

set_option maxHeartbeats 2000000 in
set_option maxRecDepth 20000 in
theorem g_J0_isLatin1_aae02_2 {G : GG} {j nw nx gn : Nat} {g : Nat → Sh} {c : Nat → Nat → Int} {post : Option AV → AM → Prop}  (hv : post (some (vi (1))) (S nw nx g, 78 + gn, c)) :
    SW G (j + 0) mJ0_isLatin1_aae02 0 [some (vf 2)] [] (S nw nx g, 78 + gn, c) B0 post := by
  refine sw_gcompact (dJ0_isLatin1_aae02.at 0 rfl) fj_J0_38 ?_
  refine sw_if_eq (tgt := 17) (dJ0_isLatin1_aae02.at 1 rfl) (by decide) (by decide) (fun q => ?_) (fun q => ?_)
  · exact absurd q (by decide)
  · clear q
    refine sw_aload_nf (dJ0_isLatin1_aae02.at 2 rfl) rfl rfl ?_
    refine sw_gcoder (i := 0) (by decide) (dJ0_isLatin1_aae02.at 3 rfl) fj_J0_15 ?_
    refine sw_if_ne (tgt := 17) (dJ0_isLatin1_aae02.at 4 rfl) (by decide) (by decide) (fun q => ?_) (fun q => ?_)
    · exact absurd q (by decide)
    · clear q
      refine sw_iconst (dJ0_isLatin1_aae02.at 5 rfl) ?_
      refine sw_goto (tgt := 18) (dJ0_isLatin1_aae02.at 6 rfl) (by decide) ?_
      exact sw_zret (dJ0_isLatin1_aae02.at 8 rfl) rfl (by decide) (Nat.le_refl _) (Nat.le_refl _) hv

theorem c_J0_isLatin1_aae02_2 {G : GG} {j nw nx gn : Nat} {g : Nat → Sh} {c : Nat → Nat → Int} {post : Option AV → AM → Prop} (K : post (some (vi (1))) (S nw nx g, 78 + gn, c)) : SM G (j + 1) mJ0_isLatin1_aae02 [vf 2] (S nw nx g, 78 + gn, c) 0 0 post := by
  refine sm_of wJ0_isLatin1_aae02 rfl (Nat.le_of_ble_eq_true rfl) ?_
  refine g_J0_isLatin1_aae02_2 ?_
  refine ?_
  all_goals first | exact K | (exact ⟨rfl, K⟩) | rfl | decide

set_option maxHeartbeats 2000000 in
set_option maxRecDepth 20000 in
theorem g_J0_length_2 {G : GG} {j nw nx gn : Nat} {g : Nat → Sh} {c : Nat → Nat → Int} {post : Option AV → AM → Prop}  (hv : post (some (vi (shr32 ((wlen 0 : Nat) : Int) 0))) (S nw nx g, 78 + gn, c)) :
    SW G (j + 1) mJ0_length_8abf5 0 [some (vf 2)] [] (S nw nx g, 78 + gn, c) B0 post := by
  refine sw_aload_nf (dJ0_length_8abf5.at 0 rfl) rfl rfl ?_
  refine sw_gvalue (i := 0) (by decide) (dJ0_length_8abf5.at 1 rfl) fj_J0_9 ?_
  refine sw_wlen (i := 0) (by decide) (dJ0_length_8abf5.at 2 rfl) ?_
  refine sw_aload_nf (dJ0_length_8abf5.at 3 rfl) rfl rfl ?_
  refine sw_callF (B' := B0) (i := 0) (As := []) (by decide) (dJ0_length_8abf5.at 4 rfl) lk_J0_335 rfl rfl (Nat.le_of_ble_eq_true rfl) rfl (Nat.le_refl _) (Nat.le_refl _) ?_
  refine c_J0_coder_7d493_2 (j := j + 0)  ?_
  refine sw_ishr (dJ0_length_8abf5.at 5 rfl) ?_
  exact sw_iret (dJ0_length_8abf5.at 6 rfl) rfl (Nat.le_refl _) (Nat.le_refl _) hv

theorem c_J0_length_2 {G : GG} {j nw nx gn : Nat} {g : Nat → Sh} {c : Nat → Nat → Int} {post : Option AV → AM → Prop} (K : post (some (vi (5))) (S nw nx g, 78 + gn, c)) : SM G (j + 2) mJ0_length_8abf5 [vf 2] (S nw nx g, 78 + gn, c) 0 0 post := by
  refine sm_of wJ0_length_8abf5 rfl (Nat.le_of_ble_eq_true rfl) ?_
  refine g_J0_length_2 ?_
  have e : shr32 ((wlen 0 : Nat) : Int) 0 = 5 := by decide
  rw [e]
  exact K

set_option maxHeartbeats 2000000 in
set_option maxRecDepth 20000 in
theorem g_J0_coder_7d493_3 {G : GG} {j nw nx gn : Nat} {g : Nat → Sh} {c : Nat → Nat → Int} {post : Option AV → AM → Prop}  (hv : post (some (vi (0))) (S nw nx g, 78 + gn, c)) :
    SW G (j + 0) mJ0_coder_7d493 0 [some (vf 3)] [] (S nw nx g, 78 + gn, c) B0 post := by
  refine sw_gcompact (dJ0_coder_7d493.at 0 rfl) fj_J0_38 ?_
  refine sw_if_eq (tgt := 13) (dJ0_coder_7d493.at 1 rfl) (by decide) (by decide) (fun q => ?_) (fun q => ?_)
  · exact absurd q (by decide)
  · clear q
    refine sw_aload_nf (dJ0_coder_7d493.at 2 rfl) rfl rfl ?_
    refine sw_gcoder (i := 1) (by decide) (dJ0_coder_7d493.at 3 rfl) fj_J0_15 ?_
    refine sw_goto (tgt := 14) (dJ0_coder_7d493.at 4 rfl) (by decide) ?_
    exact sw_nret (dJ0_coder_7d493.at 6 rfl) rfl (by decide) (Nat.le_refl _) (Nat.le_refl _) hv

theorem c_J0_coder_7d493_3 {G : GG} {j nw nx gn : Nat} {g : Nat → Sh} {c : Nat → Nat → Int} {post : Option AV → AM → Prop} (K : post (some (vi (0))) (S nw nx g, 78 + gn, c)) : SM G (j + 1) mJ0_coder_7d493 [vf 3] (S nw nx g, 78 + gn, c) 0 0 post := by
  refine sm_of wJ0_coder_7d493 rfl (Nat.le_of_ble_eq_true rfl) ?_
  refine g_J0_coder_7d493_3 ?_
  refine ?_
  all_goals first | exact K | (exact ⟨rfl, K⟩) | rfl | decide

set_option maxHeartbeats 2000000 in
set_option maxRecDepth 20000 in
theorem g_J0_isLatin1_aae02_3 {G : GG} {j nw nx gn : Nat} {g : Nat → Sh} {c : Nat → Nat → Int} {post : Option AV → AM → Prop}  (hv : post (some (vi (1))) (S nw nx g, 78 + gn, c)) :
    SW G (j + 0) mJ0_isLatin1_aae02 0 [some (vf 3)] [] (S nw nx g, 78 + gn, c) B0 post := by
  refine sw_gcompact (dJ0_isLatin1_aae02.at 0 rfl) fj_J0_38 ?_
  refine sw_if_eq (tgt := 17) (dJ0_isLatin1_aae02.at 1 rfl) (by decide) (by decide) (fun q => ?_) (fun q => ?_)
  · exact absurd q (by decide)
  · clear q
    refine sw_aload_nf (dJ0_isLatin1_aae02.at 2 rfl) rfl rfl ?_
    refine sw_gcoder (i := 1) (by decide) (dJ0_isLatin1_aae02.at 3 rfl) fj_J0_15 ?_
    refine sw_if_ne (tgt := 17) (dJ0_isLatin1_aae02.at 4 rfl) (by decide) (by decide) (fun q => ?_) (fun q => ?_)
    · exact absurd q (by decide)
    · clear q
      refine sw_iconst (dJ0_isLatin1_aae02.at 5 rfl) ?_
      refine sw_goto (tgt := 18) (dJ0_isLatin1_aae02.at 6 rfl) (by decide) ?_
      exact sw_zret (dJ0_isLatin1_aae02.at 8 rfl) rfl (by decide) (Nat.le_refl _) (Nat.le_refl _) hv

theorem c_J0_isLatin1_aae02_3 {G : GG} {j nw nx gn : Nat} {g : Nat → Sh} {c : Nat → Nat → Int} {post : Option AV → AM → Prop} (K : post (some (vi (1))) (S nw nx g, 78 + gn, c)) : SM G (j + 1) mJ0_isLatin1_aae02 [vf 3] (S nw nx g, 78 + gn, c) 0 0 post := by
  refine sm_of wJ0_isLatin1_aae02 rfl (Nat.le_of_ble_eq_true rfl) ?_
  refine g_J0_isLatin1_aae02_3 ?_
  refine ?_
  all_goals first | exact K | (exact ⟨rfl, K⟩) | rfl | decide

set_option maxHeartbeats 2000000 in
set_option maxRecDepth 20000 in
theorem g_J0_length_3 {G : GG} {j nw nx gn : Nat} {g : Nat → Sh} {c : Nat → Nat → Int} {post : Option AV → AM → Prop}  (hv : post (some (vi (shr32 ((wlen 1 : Nat) : Int) 0))) (S nw nx g, 78 + gn, c)) :
    SW G (j + 1) mJ0_length_8abf5 0 [some (vf 3)] [] (S nw nx g, 78 + gn, c) B0 post := by
  refine sw_aload_nf (dJ0_length_8abf5.at 0 rfl) rfl rfl ?_
  refine sw_gvalue (i := 1) (by decide) (dJ0_length_8abf5.at 1 rfl) fj_J0_9 ?_
  refine sw_wlen (i := 1) (by decide) (dJ0_length_8abf5.at 2 rfl) ?_
  refine sw_aload_nf (dJ0_length_8abf5.at 3 rfl) rfl rfl ?_
  refine sw_callF (B' := B0) (i := 1) (As := []) (by decide) (dJ0_length_8abf5.at 4 rfl) lk_J0_335 rfl rfl (Nat.le_of_ble_eq_true rfl) rfl (Nat.le_refl _) (Nat.le_refl _) ?_
  refine c_J0_coder_7d493_3 (j := j + 0)  ?_
  refine sw_ishr (dJ0_length_8abf5.at 5 rfl) ?_
  exact sw_iret (dJ0_length_8abf5.at 6 rfl) rfl (Nat.le_refl _) (Nat.le_refl _) hv

theorem c_J0_length_3 {G : GG} {j nw nx gn : Nat} {g : Nat → Sh} {c : Nat → Nat → Int} {post : Option AV → AM → Prop} (K : post (some (vi (4))) (S nw nx g, 78 + gn, c)) : SM G (j + 2) mJ0_length_8abf5 [vf 3] (S nw nx g, 78 + gn, c) 0 0 post := by
  refine sm_of wJ0_length_8abf5 rfl (Nat.le_of_ble_eq_true rfl) ?_
  refine g_J0_length_3 ?_
  have e : shr32 ((wlen 1 : Nat) : Int) 0 = 4 := by decide
  rw [e]
  exact K

set_option maxHeartbeats 2000000 in
set_option maxRecDepth 20000 in
theorem g_J3_checkIndex_n {G : GG} {j nw nx gn : Nat} {g : Nat → Sh} {c : Nat → Nat → Int} {post : Option AV → AM → Prop} {x : Nat} {y : Nat}  (hv : (x < 2147483648) ∧ (((((x : Nat) : Int) < 0) → SW G (j + 0) mJ3_checkIndex_8e157 9 [some (vi (((x : Nat) : Int))), some (vi (((y : Nat) : Int))), some (vn)] [] (S nw nx g, 78 + gn, c) B0 post) ∧ ((¬ (((x : Nat) : Int) < 0)) → (x < 2147483648) ∧ (y < 2147483648) ∧ (((x < y) → post (some (vi (((x : Nat) : Int)))) (S nw nx g, 78 + gn, c)) ∧ ((¬ (x < y)) → SW G (j + 0) mJ3_checkIndex_8e157 9 [some (vi (((x : Nat) : Int))), some (vi (((y : Nat) : Int))), some (vn)] [] (S nw nx g, 78 + gn, c) B0 post))))) :
    SW G (j + 0) mJ3_checkIndex_8e157 0 [some (vi (((x : Nat) : Int))), some (vi (((y : Nat) : Int))), some (vn)] [] (S nw nx g, 78 + gn, c) B0 post := by
  refine sw_iload_n (dJ3_checkIndex_8e157.at 0 rfl) rfl rfl ?_
  refine sw_if_lt (tgt := 9) (dJ3_checkIndex_8e157.at 1 rfl) (by decide) (nrng hv.1) (fun q => ?_) (fun q => ?_)
  · replace hv := hv.2.1 q
    exact hv
  · replace hv := hv.2.2 q
    refine sw_iload_n (dJ3_checkIndex_8e157.at 2 rfl) rfl rfl ?_
    refine sw_iload_n (dJ3_checkIndex_8e157.at 3 rfl) rfl rfl ?_
    refine sw_icmpN_lt x y (tgt := 16) (dJ3_checkIndex_8e157.at 4 rfl) (by decide) hv.1 hv.2.1 (fun q => ?_) (fun q => ?_)
    · replace hv := hv.2.2.1 q
      refine sw_iload_n (dJ3_checkIndex_8e157.at 10 rfl) rfl rfl ?_
      exact sw_iret (dJ3_checkIndex_8e157.at 11 rfl) rfl (Nat.le_refl _) (Nat.le_refl _) hv
    · replace hv := hv.2.2.2 q
      exact hv

theorem c_J3_checkIndex_n {G : GG} {j nw nx gn : Nat} {g : Nat → Sh} {c : Nat → Nat → Int} {post : Option AV → AM → Prop} {x y : Nat} (p1 : x < y) (p2 : y < 2147483648) (K : post (some (vi ((x : Nat) : Int))) (S nw nx g, 78 + gn, c)) : SM G (j + 1) mJ3_checkIndex_8e157 [vi (((x : Nat) : Int)), vi (((y : Nat) : Int)), vn] (S nw nx g, 78 + gn, c) 0 0 post := by
  refine sm_of wJ3_checkIndex_8e157 rfl (Nat.le_of_ble_eq_true rfl) ?_
  refine g_J3_checkIndex_n ?_
  refine ⟨?_, ⟨fun q => ?_, fun q => ⟨?_, ?_, ⟨fun q => ?_, fun q => ?_⟩⟩⟩⟩
  all_goals first | omega | exact K | (exfalso; omega)

set_option maxHeartbeats 2000000 in
set_option maxRecDepth 20000 in
theorem g_J3_checkIndex_f {G : GG} {j nw nx gn : Nat} {g : Nat → Sh} {c : Nat → Nat → Int} {post : Option AV → AM → Prop} {x : Nat} {y : Nat}  (hv : (x < 2147483648) ∧ (((((x : Nat) : Int) < 0) → SW G (j + 0) mJ3_checkIndex_8e157 9 [some (vi (((x : Nat) : Int))), some (vi (((y : Nat) : Int))), some (vf 6)] [] (S nw nx g, 78 + gn, c) B0 post) ∧ ((¬ (((x : Nat) : Int) < 0)) → (x < 2147483648) ∧ (y < 2147483648) ∧ (((x < y) → post (some (vi (((x : Nat) : Int)))) (S nw nx g, 78 + gn, c)) ∧ ((¬ (x < y)) → SW G (j + 0) mJ3_checkIndex_8e157 9 [some (vi (((x : Nat) : Int))), some (vi (((y : Nat) : Int))), some (vf 6)] [] (S nw nx g, 78 + gn, c) B0 post))))) :
    SW G (j + 0) mJ3_checkIndex_8e157 0 [some (vi (((x : Nat) : Int))), some (vi (((y : Nat) : Int))), some (vf 6)] [] (S nw nx g, 78 + gn, c) B0 post := by
  refine sw_iload_n (dJ3_checkIndex_8e157.at 0 rfl) rfl rfl ?_
  refine sw_if_lt (tgt := 9) (dJ3_checkIndex_8e157.at 1 rfl) (by decide) (nrng hv.1) (fun q => ?_) (fun q => ?_)
  · replace hv := hv.2.1 q
    exact hv
  · replace hv := hv.2.2 q
    refine sw_iload_n (dJ3_checkIndex_8e157.at 2 rfl) rfl rfl ?_
    refine sw_iload_n (dJ3_checkIndex_8e157.at 3 rfl) rfl rfl ?_
    refine sw_icmpN_lt x y (tgt := 16) (dJ3_checkIndex_8e157.at 4 rfl) (by decide) hv.1 hv.2.1 (fun q => ?_) (fun q => ?_)
    · replace hv := hv.2.2.1 q
      refine sw_iload_n (dJ3_checkIndex_8e157.at 10 rfl) rfl rfl ?_
      exact sw_iret (dJ3_checkIndex_8e157.at 11 rfl) rfl (Nat.le_refl _) (Nat.le_refl _) hv
    · replace hv := hv.2.2.2 q
      exact hv

theorem c_J3_checkIndex_f {G : GG} {j nw nx gn : Nat} {g : Nat → Sh} {c : Nat → Nat → Int} {post : Option AV → AM → Prop} {x y : Nat} (p1 : x < y) (p2 : y < 2147483648) (K : post (some (vi ((x : Nat) : Int))) (S nw nx g, 78 + gn, c)) : SM G (j + 1) mJ3_checkIndex_8e157 [vi (((x : Nat) : Int)), vi (((y : Nat) : Int)), vf 6] (S nw nx g, 78 + gn, c) 0 0 post := by
  refine sm_of wJ3_checkIndex_8e157 rfl (Nat.le_of_ble_eq_true rfl) ?_
  refine g_J3_checkIndex_f ?_
  refine ⟨?_, ⟨fun q => ?_, fun q => ⟨?_, ?_, ⟨fun q => ?_, fun q => ?_⟩⟩⟩⟩
  all_goals first | omega | exact K | (exfalso; omega)

set_option maxHeartbeats 2000000 in
set_option maxRecDepth 20000 in
theorem g_J0_checkIndex_df160_0 {G : GG} {j nw nx gn : Nat} {g : Nat → Sh} {c : Nat → Nat → Int} {post : Option AV → AM → Prop} {x : Nat} {y : Nat}  (hv : ((x < y) ∧ (y < 2147483648) ∧ (post none (S nw nx g, 78 + gn, c))) ∧ ((x < y) ∧ (y < 2147483648) ∧ (post none (S nw nx g, 78 + gn, c)))) :
    SW G (j + 1) mJ0_checkIndex_df160 0 [some (vi (((x : Nat) : Int))), some (vi (((y : Nat) : Int)))] [] (S nw nx g, 78 + gn, c) B0 post := by
  refine sw_iload_n (dJ0_checkIndex_df160.at 0 rfl) rfl rfl ?_
  refine sw_iload_n (dJ0_checkIndex_df160.at 1 rfl) rfl rfl ?_
  refine sw_gform (dJ0_checkIndex_df160.at 2 rfl) fj_J0_1053 ?_ ?_
  · replace hv := hv.1
    refine sw_callS (post' := post) (B' := B0) (As := [vi (((x : Nat) : Int)), vi (((y : Nat) : Int)), vn]) (mc := 0) (ms := 0) (dJ0_checkIndex_df160.at 3 rfl) lk_J0_1059 rfl rfl (Nat.le_of_ble_eq_true rfl) rfl (Nat.le_refl _) (Nat.le_refl _) ?_
    refine c_J3_checkIndex_n (x := x) (y := y) (j := j + 0) hv.1 hv.2.1 ?_
    replace hv := hv.2.2
    refine sw_pop (dJ0_checkIndex_df160.at 4 rfl) (fun _ h => by cases h) ?_
    exact sw_vret (dJ0_checkIndex_df160.at 5 rfl) rfl (Nat.le_refl _) (Nat.le_refl _) hv
  · replace hv := hv.2
    refine sw_callS (post' := post) (B' := B0) (As := [vi (((x : Nat) : Int)), vi (((y : Nat) : Int)), vf 6]) (mc := 0) (ms := 0) (dJ0_checkIndex_df160.at 3 rfl) lk_J0_1059 rfl rfl (Nat.le_of_ble_eq_true rfl) rfl (Nat.le_refl _) (Nat.le_refl _) ?_
    refine c_J3_checkIndex_f (x := x) (y := y) (j := j + 0) hv.1 hv.2.1 ?_
    replace hv := hv.2.2
    refine sw_pop (dJ0_checkIndex_df160.at 4 rfl) (fun _ h => by cases h) ?_
    exact sw_vret (dJ0_checkIndex_df160.at 5 rfl) rfl (Nat.le_refl _) (Nat.le_refl _) hv

set_option maxHeartbeats 2000000 in
theorem c_J0_checkIndex_df160 {G : GG} {j nw nx gn : Nat} {g : Nat → Sh} {c : Nat → Nat → Int} {post : Option AV → AM → Prop} {x : Nat} {y : Nat} (p1 : x < y) (p2 : y < 2147483648) (K : post none (S nw nx g, 78 + gn, c)) : SM G (j + 2) mJ0_checkIndex_df160 [vi (((x : Nat) : Int)), vi (((y : Nat) : Int))] (S nw nx g, 78 + gn, c) 0 0 post := by
  refine sm_of wJ0_checkIndex_df160 rfl (Nat.le_of_ble_eq_true rfl) ?_
  refine g_J0_checkIndex_df160_0  ?_
  refine ⟨⟨?_, ?_, ?_⟩, ⟨?_, ?_, ?_⟩⟩
  all_goals first | exact K | assumption | omega

set_option maxHeartbeats 2000000 in
set_option maxRecDepth 20000 in
theorem g_J1_charAt_2_0 {G : GG} {j nw nx gn : Nat} {g : Nat → Sh} {c : Nat → Nat → Int} {post : Option AV → AM → Prop}  (hv : (0 < (wlen 0)) ∧ ((wlen 0) < 2147483648) ∧ (((0 : Int) ≤ 0) ∧ (0 < (wlen 0 : Int)) ∧ ((0 ≤ and32 (wbyt 0 ((0 : Int).toNat)) 255 ∧ and32 (wbyt 0 ((0 : Int).toNat)) 255 < 65536) ∧ ((narrow .char (.int (Int32.ofInt (and32 (wbyt 0 ((0 : Int).toNat)) 255))) = .int (Int32.ofInt (and32 (wbyt 0 ((0 : Int).toNat)) 255))) ∧ post (some (vi (and32 (wbyt 0 ((0 : Int).toNat)) 255))) (S nw nx g, 78 + gn, c))))) :
    SW G (j + 2) mJ1_charAt_3b067 0 [some (vf 4), some (vi (0))] [] (S nw nx g, 78 + gn, c) B0 post := by
  refine sw_iload_n (dJ1_charAt_3b067.at 0 rfl) rfl rfl ?_
  refine sw_aload_nf (dJ1_charAt_3b067.at 1 rfl) rfl rfl ?_
  refine sw_wlen (i := 0) (by decide) (dJ1_charAt_3b067.at 2 rfl) ?_
  refine sw_callS (post' := post) (B' := B0) (As := [vi (0), vi (((wlen 0 : Nat) : Int))]) (mc := 0) (ms := 0) (dJ1_charAt_3b067.at 3 rfl) lk_J1_9 rfl rfl (Nat.le_of_ble_eq_true rfl) rfl (Nat.le_refl _) (Nat.le_refl _) ?_
  refine c_J0_checkIndex_df160 (x := 0) (y := (wlen 0)) (j := j + 0) hv.1 hv.2.1 ?_
  replace hv := hv.2.2
  refine sw_aload_nf (dJ1_charAt_3b067.at 4 rfl) rfl rfl ?_
  refine sw_iload_n (dJ1_charAt_3b067.at 5 rfl) rfl rfl ?_
  refine sw_wald (i := 0) (by decide) (dJ1_charAt_3b067.at 6 rfl) hv.1 hv.2.1 ?_
  replace hv := hv.2.2
  refine sw_sipush (dJ1_charAt_3b067.at 7 rfl) (by decide) ?_
  refine sw_iand (dJ1_charAt_3b067.at 8 rfl) ?_
  refine sw_i2c (dJ1_charAt_3b067.at 9 rfl) hv.1 ?_
  replace hv := hv.2
  exact sw_nret (dJ1_charAt_3b067.at 10 rfl) rfl hv.1 (Nat.le_refl _) (Nat.le_refl _) hv.2

theorem c_J1_charAt_2_0 {G : GG} {j nw nx gn : Nat} {g : Nat → Sh} {c : Nat → Nat → Int} {post : Option AV → AM → Prop} (K : post (some (vi (103))) (S nw nx g, 78 + gn, c)) : SM G (j + 3) mJ1_charAt_3b067 [vf 4, vi (0)] (S nw nx g, 78 + gn, c) 0 0 post := by
  refine sm_of wJ1_charAt_3b067 rfl (Nat.le_of_ble_eq_true rfl) ?_
  refine g_J1_charAt_2_0 ?_
  have e : and32 (wbyt 0 ((0 : Int).toNat)) 255 = 103 := by decide
  have e1 : 103 = and32 (wbyt 0 ((0 : Int).toNat)) 255 := e.symm
  refine ⟨?_, ?_, ⟨?_, ?_, ⟨?_, ⟨?_, ?_⟩⟩⟩⟩
  all_goals first | decide | exact K | (rw [e]; first | decide | exact K)

set_option maxHeartbeats 2000000 in
set_option maxRecDepth 20000 in
theorem g_J1_charAt_2_1 {G : GG} {j nw nx gn : Nat} {g : Nat → Sh} {c : Nat → Nat → Int} {post : Option AV → AM → Prop}  (hv : (1 < (wlen 0)) ∧ ((wlen 0) < 2147483648) ∧ (((0 : Int) ≤ 1) ∧ (1 < (wlen 0 : Int)) ∧ ((0 ≤ and32 (wbyt 0 ((1 : Int).toNat)) 255 ∧ and32 (wbyt 0 ((1 : Int).toNat)) 255 < 65536) ∧ ((narrow .char (.int (Int32.ofInt (and32 (wbyt 0 ((1 : Int).toNat)) 255))) = .int (Int32.ofInt (and32 (wbyt 0 ((1 : Int).toNat)) 255))) ∧ post (some (vi (and32 (wbyt 0 ((1 : Int).toNat)) 255))) (S nw nx g, 78 + gn, c))))) :
    SW G (j + 2) mJ1_charAt_3b067 0 [some (vf 4), some (vi (1))] [] (S nw nx g, 78 + gn, c) B0 post := by
  refine sw_iload_n (dJ1_charAt_3b067.at 0 rfl) rfl rfl ?_
  refine sw_aload_nf (dJ1_charAt_3b067.at 1 rfl) rfl rfl ?_
  refine sw_wlen (i := 0) (by decide) (dJ1_charAt_3b067.at 2 rfl) ?_
  refine sw_callS (post' := post) (B' := B0) (As := [vi (1), vi (((wlen 0 : Nat) : Int))]) (mc := 0) (ms := 0) (dJ1_charAt_3b067.at 3 rfl) lk_J1_9 rfl rfl (Nat.le_of_ble_eq_true rfl) rfl (Nat.le_refl _) (Nat.le_refl _) ?_
  refine c_J0_checkIndex_df160 (x := 1) (y := (wlen 0)) (j := j + 0) hv.1 hv.2.1 ?_
  replace hv := hv.2.2
  refine sw_aload_nf (dJ1_charAt_3b067.at 4 rfl) rfl rfl ?_
  refine sw_iload_n (dJ1_charAt_3b067.at 5 rfl) rfl rfl ?_
  refine sw_wald (i := 0) (by decide) (dJ1_charAt_3b067.at 6 rfl) hv.1 hv.2.1 ?_
  replace hv := hv.2.2
  refine sw_sipush (dJ1_charAt_3b067.at 7 rfl) (by decide) ?_
  refine sw_iand (dJ1_charAt_3b067.at 8 rfl) ?_
  refine sw_i2c (dJ1_charAt_3b067.at 9 rfl) hv.1 ?_
  replace hv := hv.2
  exact sw_nret (dJ1_charAt_3b067.at 10 rfl) rfl hv.1 (Nat.le_refl _) (Nat.le_refl _) hv.2

theorem c_J1_charAt_2_1 {G : GG} {j nw nx gn : Nat} {g : Nat → Sh} {c : Nat → Nat → Int} {post : Option AV → AM → Prop} (K : post (some (vi (114))) (S nw nx g, 78 + gn, c)) : SM G (j + 3) mJ1_charAt_3b067 [vf 4, vi (1)] (S nw nx g, 78 + gn, c) 0 0 post := by
  refine sm_of wJ1_charAt_3b067 rfl (Nat.le_of_ble_eq_true rfl) ?_
  refine g_J1_charAt_2_1 ?_
  have e : and32 (wbyt 0 ((1 : Int).toNat)) 255 = 114 := by decide
  have e1 : 114 = and32 (wbyt 0 ((1 : Int).toNat)) 255 := e.symm
  refine ⟨?_, ?_, ⟨?_, ?_, ⟨?_, ⟨?_, ?_⟩⟩⟩⟩
  all_goals first | decide | exact K | (rw [e]; first | decide | exact K)

set_option maxHeartbeats 2000000 in
set_option maxRecDepth 20000 in
theorem g_J1_charAt_2_2 {G : GG} {j nw nx gn : Nat} {g : Nat → Sh} {c : Nat → Nat → Int} {post : Option AV → AM → Prop}  (hv : (2 < (wlen 0)) ∧ ((wlen 0) < 2147483648) ∧ (((0 : Int) ≤ 2) ∧ (2 < (wlen 0 : Int)) ∧ ((0 ≤ and32 (wbyt 0 ((2 : Int).toNat)) 255 ∧ and32 (wbyt 0 ((2 : Int).toNat)) 255 < 65536) ∧ ((narrow .char (.int (Int32.ofInt (and32 (wbyt 0 ((2 : Int).toNat)) 255))) = .int (Int32.ofInt (and32 (wbyt 0 ((2 : Int).toNat)) 255))) ∧ post (some (vi (and32 (wbyt 0 ((2 : Int).toNat)) 255))) (S nw nx g, 78 + gn, c))))) :
    SW G (j + 2) mJ1_charAt_3b067 0 [some (vf 4), some (vi (2))] [] (S nw nx g, 78 + gn, c) B0 post := by
  refine sw_iload_n (dJ1_charAt_3b067.at 0 rfl) rfl rfl ?_
  refine sw_aload_nf (dJ1_charAt_3b067.at 1 rfl) rfl rfl ?_
  refine sw_wlen (i := 0) (by decide) (dJ1_charAt_3b067.at 2 rfl) ?_
  refine sw_callS (post' := post) (B' := B0) (As := [vi (2), vi (((wlen 0 : Nat) : Int))]) (mc := 0) (ms := 0) (dJ1_charAt_3b067.at 3 rfl) lk_J1_9 rfl rfl (Nat.le_of_ble_eq_true rfl) rfl (Nat.le_refl _) (Nat.le_refl _) ?_
  refine c_J0_checkIndex_df160 (x := 2) (y := (wlen 0)) (j := j + 0) hv.1 hv.2.1 ?_
  replace hv := hv.2.2
  refine sw_aload_nf (dJ1_charAt_3b067.at 4 rfl) rfl rfl ?_
  refine sw_iload_n (dJ1_charAt_3b067.at 5 rfl) rfl rfl ?_
  refine sw_wald (i := 0) (by decide) (dJ1_charAt_3b067.at 6 rfl) hv.1 hv.2.1 ?_
  replace hv := hv.2.2
  refine sw_sipush (dJ1_charAt_3b067.at 7 rfl) (by decide) ?_
  refine sw_iand (dJ1_charAt_3b067.at 8 rfl) ?_
  refine sw_i2c (dJ1_charAt_3b067.at 9 rfl) hv.1 ?_
  replace hv := hv.2
  exact sw_nret (dJ1_charAt_3b067.at 10 rfl) rfl hv.1 (Nat.le_refl _) (Nat.le_refl _) hv.2

theorem c_J1_charAt_2_2 {G : GG} {j nw nx gn : Nat} {g : Nat → Sh} {c : Nat → Nat → Int} {post : Option AV → AM → Prop} (K : post (some (vi (111))) (S nw nx g, 78 + gn, c)) : SM G (j + 3) mJ1_charAt_3b067 [vf 4, vi (2)] (S nw nx g, 78 + gn, c) 0 0 post := by
  refine sm_of wJ1_charAt_3b067 rfl (Nat.le_of_ble_eq_true rfl) ?_
  refine g_J1_charAt_2_2 ?_
  have e : and32 (wbyt 0 ((2 : Int).toNat)) 255 = 111 := by decide
  have e1 : 111 = and32 (wbyt 0 ((2 : Int).toNat)) 255 := e.symm
  refine ⟨?_, ?_, ⟨?_, ?_, ⟨?_, ⟨?_, ?_⟩⟩⟩⟩
  all_goals first | decide | exact K | (rw [e]; first | decide | exact K)

set_option maxHeartbeats 2000000 in
set_option maxRecDepth 20000 in
theorem g_J1_charAt_2_3 {G : GG} {j nw nx gn : Nat} {g : Nat → Sh} {c : Nat → Nat → Int} {post : Option AV → AM → Prop}  (hv : (3 < (wlen 0)) ∧ ((wlen 0) < 2147483648) ∧ (((0 : Int) ≤ 3) ∧ (3 < (wlen 0 : Int)) ∧ ((0 ≤ and32 (wbyt 0 ((3 : Int).toNat)) 255 ∧ and32 (wbyt 0 ((3 : Int).toNat)) 255 < 65536) ∧ ((narrow .char (.int (Int32.ofInt (and32 (wbyt 0 ((3 : Int).toNat)) 255))) = .int (Int32.ofInt (and32 (wbyt 0 ((3 : Int).toNat)) 255))) ∧ post (some (vi (and32 (wbyt 0 ((3 : Int).toNat)) 255))) (S nw nx g, 78 + gn, c))))) :
    SW G (j + 2) mJ1_charAt_3b067 0 [some (vf 4), some (vi (3))] [] (S nw nx g, 78 + gn, c) B0 post := by
  refine sw_iload_n (dJ1_charAt_3b067.at 0 rfl) rfl rfl ?_
  refine sw_aload_nf (dJ1_charAt_3b067.at 1 rfl) rfl rfl ?_
  refine sw_wlen (i := 0) (by decide) (dJ1_charAt_3b067.at 2 rfl) ?_
  refine sw_callS (post' := post) (B' := B0) (As := [vi (3), vi (((wlen 0 : Nat) : Int))]) (mc := 0) (ms := 0) (dJ1_charAt_3b067.at 3 rfl) lk_J1_9 rfl rfl (Nat.le_of_ble_eq_true rfl) rfl (Nat.le_refl _) (Nat.le_refl _) ?_
  refine c_J0_checkIndex_df160 (x := 3) (y := (wlen 0)) (j := j + 0) hv.1 hv.2.1 ?_
  replace hv := hv.2.2
  refine sw_aload_nf (dJ1_charAt_3b067.at 4 rfl) rfl rfl ?_
  refine sw_iload_n (dJ1_charAt_3b067.at 5 rfl) rfl rfl ?_
  refine sw_wald (i := 0) (by decide) (dJ1_charAt_3b067.at 6 rfl) hv.1 hv.2.1 ?_
  replace hv := hv.2.2
  refine sw_sipush (dJ1_charAt_3b067.at 7 rfl) (by decide) ?_
  refine sw_iand (dJ1_charAt_3b067.at 8 rfl) ?_
  refine sw_i2c (dJ1_charAt_3b067.at 9 rfl) hv.1 ?_
  replace hv := hv.2
  exact sw_nret (dJ1_charAt_3b067.at 10 rfl) rfl hv.1 (Nat.le_refl _) (Nat.le_refl _) hv.2

theorem c_J1_charAt_2_3 {G : GG} {j nw nx gn : Nat} {g : Nat → Sh} {c : Nat → Nat → Int} {post : Option AV → AM → Prop} (K : post (some (vi (117))) (S nw nx g, 78 + gn, c)) : SM G (j + 3) mJ1_charAt_3b067 [vf 4, vi (3)] (S nw nx g, 78 + gn, c) 0 0 post := by
  refine sm_of wJ1_charAt_3b067 rfl (Nat.le_of_ble_eq_true rfl) ?_
  refine g_J1_charAt_2_3 ?_
  have e : and32 (wbyt 0 ((3 : Int).toNat)) 255 = 117 := by decide
  have e1 : 117 = and32 (wbyt 0 ((3 : Int).toNat)) 255 := e.symm
  refine ⟨?_, ?_, ⟨?_, ?_, ⟨?_, ⟨?_, ?_⟩⟩⟩⟩
  all_goals first | decide | exact K | (rw [e]; first | decide | exact K)

set_option maxHeartbeats 2000000 in
set_option maxRecDepth 20000 in
theorem g_J1_charAt_2_4 {G : GG} {j nw nx gn : Nat} {g : Nat → Sh} {c : Nat → Nat → Int} {post : Option AV → AM → Prop}  (hv : (4 < (wlen 0)) ∧ ((wlen 0) < 2147483648) ∧ (((0 : Int) ≤ 4) ∧ (4 < (wlen 0 : Int)) ∧ ((0 ≤ and32 (wbyt 0 ((4 : Int).toNat)) 255 ∧ and32 (wbyt 0 ((4 : Int).toNat)) 255 < 65536) ∧ ((narrow .char (.int (Int32.ofInt (and32 (wbyt 0 ((4 : Int).toNat)) 255))) = .int (Int32.ofInt (and32 (wbyt 0 ((4 : Int).toNat)) 255))) ∧ post (some (vi (and32 (wbyt 0 ((4 : Int).toNat)) 255))) (S nw nx g, 78 + gn, c))))) :
    SW G (j + 2) mJ1_charAt_3b067 0 [some (vf 4), some (vi (4))] [] (S nw nx g, 78 + gn, c) B0 post := by
  refine sw_iload_n (dJ1_charAt_3b067.at 0 rfl) rfl rfl ?_
  refine sw_aload_nf (dJ1_charAt_3b067.at 1 rfl) rfl rfl ?_
  refine sw_wlen (i := 0) (by decide) (dJ1_charAt_3b067.at 2 rfl) ?_
  refine sw_callS (post' := post) (B' := B0) (As := [vi (4), vi (((wlen 0 : Nat) : Int))]) (mc := 0) (ms := 0) (dJ1_charAt_3b067.at 3 rfl) lk_J1_9 rfl rfl (Nat.le_of_ble_eq_true rfl) rfl (Nat.le_refl _) (Nat.le_refl _) ?_
  refine c_J0_checkIndex_df160 (x := 4) (y := (wlen 0)) (j := j + 0) hv.1 hv.2.1 ?_
  replace hv := hv.2.2
  refine sw_aload_nf (dJ1_charAt_3b067.at 4 rfl) rfl rfl ?_
  refine sw_iload_n (dJ1_charAt_3b067.at 5 rfl) rfl rfl ?_
  refine sw_wald (i := 0) (by decide) (dJ1_charAt_3b067.at 6 rfl) hv.1 hv.2.1 ?_
  replace hv := hv.2.2
  refine sw_sipush (dJ1_charAt_3b067.at 7 rfl) (by decide) ?_
  refine sw_iand (dJ1_charAt_3b067.at 8 rfl) ?_
  refine sw_i2c (dJ1_charAt_3b067.at 9 rfl) hv.1 ?_
  replace hv := hv.2
  exact sw_nret (dJ1_charAt_3b067.at 10 rfl) rfl hv.1 (Nat.le_refl _) (Nat.le_refl _) hv.2

theorem c_J1_charAt_2_4 {G : GG} {j nw nx gn : Nat} {g : Nat → Sh} {c : Nat → Nat → Int} {post : Option AV → AM → Prop} (K : post (some (vi (112))) (S nw nx g, 78 + gn, c)) : SM G (j + 3) mJ1_charAt_3b067 [vf 4, vi (4)] (S nw nx g, 78 + gn, c) 0 0 post := by
  refine sm_of wJ1_charAt_3b067 rfl (Nat.le_of_ble_eq_true rfl) ?_
  refine g_J1_charAt_2_4 ?_
  have e : and32 (wbyt 0 ((4 : Int).toNat)) 255 = 112 := by decide
  have e1 : 112 = and32 (wbyt 0 ((4 : Int).toNat)) 255 := e.symm
  refine ⟨?_, ?_, ⟨?_, ?_, ⟨?_, ⟨?_, ?_⟩⟩⟩⟩
  all_goals first | decide | exact K | (rw [e]; first | decide | exact K)

set_option maxHeartbeats 2000000 in
set_option maxRecDepth 20000 in
theorem g_J1_charAt_3_0 {G : GG} {j nw nx gn : Nat} {g : Nat → Sh} {c : Nat → Nat → Int} {post : Option AV → AM → Prop}  (hv : (0 < (wlen 1)) ∧ ((wlen 1) < 2147483648) ∧ (((0 : Int) ≤ 0) ∧ (0 < (wlen 1 : Int)) ∧ ((0 ≤ and32 (wbyt 1 ((0 : Int).toNat)) 255 ∧ and32 (wbyt 1 ((0 : Int).toNat)) 255 < 65536) ∧ ((narrow .char (.int (Int32.ofInt (and32 (wbyt 1 ((0 : Int).toNat)) 255))) = .int (Int32.ofInt (and32 (wbyt 1 ((0 : Int).toNat)) 255))) ∧ post (some (vi (and32 (wbyt 1 ((0 : Int).toNat)) 255))) (S nw nx g, 78 + gn, c))))) :
    SW G (j + 2) mJ1_charAt_3b067 0 [some (vf 5), some (vi (0))] [] (S nw nx g, 78 + gn, c) B0 post := by
  refine sw_iload_n (dJ1_charAt_3b067.at 0 rfl) rfl rfl ?_
  refine sw_aload_nf (dJ1_charAt_3b067.at 1 rfl) rfl rfl ?_
  refine sw_wlen (i := 1) (by decide) (dJ1_charAt_3b067.at 2 rfl) ?_
  refine sw_callS (post' := post) (B' := B0) (As := [vi (0), vi (((wlen 1 : Nat) : Int))]) (mc := 0) (ms := 0) (dJ1_charAt_3b067.at 3 rfl) lk_J1_9 rfl rfl (Nat.le_of_ble_eq_true rfl) rfl (Nat.le_refl _) (Nat.le_refl _) ?_
  refine c_J0_checkIndex_df160 (x := 0) (y := (wlen 1)) (j := j + 0) hv.1 hv.2.1 ?_
  replace hv := hv.2.2
  refine sw_aload_nf (dJ1_charAt_3b067.at 4 rfl) rfl rfl ?_
  refine sw_iload_n (dJ1_charAt_3b067.at 5 rfl) rfl rfl ?_
  refine sw_wald (i := 1) (by decide) (dJ1_charAt_3b067.at 6 rfl) hv.1 hv.2.1 ?_
  replace hv := hv.2.2
  refine sw_sipush (dJ1_charAt_3b067.at 7 rfl) (by decide) ?_
  refine sw_iand (dJ1_charAt_3b067.at 8 rfl) ?_
  refine sw_i2c (dJ1_charAt_3b067.at 9 rfl) hv.1 ?_
  replace hv := hv.2
  exact sw_nret (dJ1_charAt_3b067.at 10 rfl) rfl hv.1 (Nat.le_refl _) (Nat.le_refl _) hv.2

theorem c_J1_charAt_3_0 {G : GG} {j nw nx gn : Nat} {g : Nat → Sh} {c : Nat → Nat → Int} {post : Option AV → AM → Prop} (K : post (some (vi (98))) (S nw nx g, 78 + gn, c)) : SM G (j + 3) mJ1_charAt_3b067 [vf 5, vi (0)] (S nw nx g, 78 + gn, c) 0 0 post := by
  refine sm_of wJ1_charAt_3b067 rfl (Nat.le_of_ble_eq_true rfl) ?_
  refine g_J1_charAt_3_0 ?_
  have e : and32 (wbyt 1 ((0 : Int).toNat)) 255 = 98 := by decide
  have e1 : 98 = and32 (wbyt 1 ((0 : Int).toNat)) 255 := e.symm
  refine ⟨?_, ?_, ⟨?_, ?_, ⟨?_, ⟨?_, ?_⟩⟩⟩⟩
  all_goals first | decide | exact K | (rw [e]; first | decide | exact K)

set_option maxHeartbeats 2000000 in
set_option maxRecDepth 20000 in
theorem g_J1_charAt_3_1 {G : GG} {j nw nx gn : Nat} {g : Nat → Sh} {c : Nat → Nat → Int} {post : Option AV → AM → Prop}  (hv : (1 < (wlen 1)) ∧ ((wlen 1) < 2147483648) ∧ (((0 : Int) ≤ 1) ∧ (1 < (wlen 1 : Int)) ∧ ((0 ≤ and32 (wbyt 1 ((1 : Int).toNat)) 255 ∧ and32 (wbyt 1 ((1 : Int).toNat)) 255 < 65536) ∧ ((narrow .char (.int (Int32.ofInt (and32 (wbyt 1 ((1 : Int).toNat)) 255))) = .int (Int32.ofInt (and32 (wbyt 1 ((1 : Int).toNat)) 255))) ∧ post (some (vi (and32 (wbyt 1 ((1 : Int).toNat)) 255))) (S nw nx g, 78 + gn, c))))) :
    SW G (j + 2) mJ1_charAt_3b067 0 [some (vf 5), some (vi (1))] [] (S nw nx g, 78 + gn, c) B0 post := by
  refine sw_iload_n (dJ1_charAt_3b067.at 0 rfl) rfl rfl ?_
  refine sw_aload_nf (dJ1_charAt_3b067.at 1 rfl) rfl rfl ?_
  refine sw_wlen (i := 1) (by decide) (dJ1_charAt_3b067.at 2 rfl) ?_
  refine sw_callS (post' := post) (B' := B0) (As := [vi (1), vi (((wlen 1 : Nat) : Int))]) (mc := 0) (ms := 0) (dJ1_charAt_3b067.at 3 rfl) lk_J1_9 rfl rfl (Nat.le_of_ble_eq_true rfl) rfl (Nat.le_refl _) (Nat.le_refl _) ?_
  refine c_J0_checkIndex_df160 (x := 1) (y := (wlen 1)) (j := j + 0) hv.1 hv.2.1 ?_
  replace hv := hv.2.2
  refine sw_aload_nf (dJ1_charAt_3b067.at 4 rfl) rfl rfl ?_
  refine sw_iload_n (dJ1_charAt_3b067.at 5 rfl) rfl rfl ?_
  refine sw_wald (i := 1) (by decide) (dJ1_charAt_3b067.at 6 rfl) hv.1 hv.2.1 ?_
  replace hv := hv.2.2
  refine sw_sipush (dJ1_charAt_3b067.at 7 rfl) (by decide) ?_
  refine sw_iand (dJ1_charAt_3b067.at 8 rfl) ?_
  refine sw_i2c (dJ1_charAt_3b067.at 9 rfl) hv.1 ?_
  replace hv := hv.2
  exact sw_nret (dJ1_charAt_3b067.at 10 rfl) rfl hv.1 (Nat.le_refl _) (Nat.le_refl _) hv.2

theorem c_J1_charAt_3_1 {G : GG} {j nw nx gn : Nat} {g : Nat → Sh} {c : Nat → Nat → Int} {post : Option AV → AM → Prop} (K : post (some (vi (111))) (S nw nx g, 78 + gn, c)) : SM G (j + 3) mJ1_charAt_3b067 [vf 5, vi (1)] (S nw nx g, 78 + gn, c) 0 0 post := by
  refine sm_of wJ1_charAt_3b067 rfl (Nat.le_of_ble_eq_true rfl) ?_
  refine g_J1_charAt_3_1 ?_
  have e : and32 (wbyt 1 ((1 : Int).toNat)) 255 = 111 := by decide
  have e1 : 111 = and32 (wbyt 1 ((1 : Int).toNat)) 255 := e.symm
  refine ⟨?_, ?_, ⟨?_, ?_, ⟨?_, ⟨?_, ?_⟩⟩⟩⟩
  all_goals first | decide | exact K | (rw [e]; first | decide | exact K)

set_option maxHeartbeats 2000000 in
set_option maxRecDepth 20000 in
theorem g_J1_charAt_3_2 {G : GG} {j nw nx gn : Nat} {g : Nat → Sh} {c : Nat → Nat → Int} {post : Option AV → AM → Prop}  (hv : (2 < (wlen 1)) ∧ ((wlen 1) < 2147483648) ∧ (((0 : Int) ≤ 2) ∧ (2 < (wlen 1 : Int)) ∧ ((0 ≤ and32 (wbyt 1 ((2 : Int).toNat)) 255 ∧ and32 (wbyt 1 ((2 : Int).toNat)) 255 < 65536) ∧ ((narrow .char (.int (Int32.ofInt (and32 (wbyt 1 ((2 : Int).toNat)) 255))) = .int (Int32.ofInt (and32 (wbyt 1 ((2 : Int).toNat)) 255))) ∧ post (some (vi (and32 (wbyt 1 ((2 : Int).toNat)) 255))) (S nw nx g, 78 + gn, c))))) :
    SW G (j + 2) mJ1_charAt_3b067 0 [some (vf 5), some (vi (2))] [] (S nw nx g, 78 + gn, c) B0 post := by
  refine sw_iload_n (dJ1_charAt_3b067.at 0 rfl) rfl rfl ?_
  refine sw_aload_nf (dJ1_charAt_3b067.at 1 rfl) rfl rfl ?_
  refine sw_wlen (i := 1) (by decide) (dJ1_charAt_3b067.at 2 rfl) ?_
  refine sw_callS (post' := post) (B' := B0) (As := [vi (2), vi (((wlen 1 : Nat) : Int))]) (mc := 0) (ms := 0) (dJ1_charAt_3b067.at 3 rfl) lk_J1_9 rfl rfl (Nat.le_of_ble_eq_true rfl) rfl (Nat.le_refl _) (Nat.le_refl _) ?_
  refine c_J0_checkIndex_df160 (x := 2) (y := (wlen 1)) (j := j + 0) hv.1 hv.2.1 ?_
  replace hv := hv.2.2
  refine sw_aload_nf (dJ1_charAt_3b067.at 4 rfl) rfl rfl ?_
  refine sw_iload_n (dJ1_charAt_3b067.at 5 rfl) rfl rfl ?_
  refine sw_wald (i := 1) (by decide) (dJ1_charAt_3b067.at 6 rfl) hv.1 hv.2.1 ?_
  replace hv := hv.2.2
  refine sw_sipush (dJ1_charAt_3b067.at 7 rfl) (by decide) ?_
  refine sw_iand (dJ1_charAt_3b067.at 8 rfl) ?_
  refine sw_i2c (dJ1_charAt_3b067.at 9 rfl) hv.1 ?_
  replace hv := hv.2
  exact sw_nret (dJ1_charAt_3b067.at 10 rfl) rfl hv.1 (Nat.le_refl _) (Nat.le_refl _) hv.2

theorem c_J1_charAt_3_2 {G : GG} {j nw nx gn : Nat} {g : Nat → Sh} {c : Nat → Nat → Int} {post : Option AV → AM → Prop} (K : post (some (vi (110))) (S nw nx g, 78 + gn, c)) : SM G (j + 3) mJ1_charAt_3b067 [vf 5, vi (2)] (S nw nx g, 78 + gn, c) 0 0 post := by
  refine sm_of wJ1_charAt_3b067 rfl (Nat.le_of_ble_eq_true rfl) ?_
  refine g_J1_charAt_3_2 ?_
  have e : and32 (wbyt 1 ((2 : Int).toNat)) 255 = 110 := by decide
  have e1 : 110 = and32 (wbyt 1 ((2 : Int).toNat)) 255 := e.symm
  refine ⟨?_, ?_, ⟨?_, ?_, ⟨?_, ⟨?_, ?_⟩⟩⟩⟩
  all_goals first | decide | exact K | (rw [e]; first | decide | exact K)

set_option maxHeartbeats 2000000 in
set_option maxRecDepth 20000 in
theorem g_J1_charAt_3_3 {G : GG} {j nw nx gn : Nat} {g : Nat → Sh} {c : Nat → Nat → Int} {post : Option AV → AM → Prop}  (hv : (3 < (wlen 1)) ∧ ((wlen 1) < 2147483648) ∧ (((0 : Int) ≤ 3) ∧ (3 < (wlen 1 : Int)) ∧ ((0 ≤ and32 (wbyt 1 ((3 : Int).toNat)) 255 ∧ and32 (wbyt 1 ((3 : Int).toNat)) 255 < 65536) ∧ ((narrow .char (.int (Int32.ofInt (and32 (wbyt 1 ((3 : Int).toNat)) 255))) = .int (Int32.ofInt (and32 (wbyt 1 ((3 : Int).toNat)) 255))) ∧ post (some (vi (and32 (wbyt 1 ((3 : Int).toNat)) 255))) (S nw nx g, 78 + gn, c))))) :
    SW G (j + 2) mJ1_charAt_3b067 0 [some (vf 5), some (vi (3))] [] (S nw nx g, 78 + gn, c) B0 post := by
  refine sw_iload_n (dJ1_charAt_3b067.at 0 rfl) rfl rfl ?_
  refine sw_aload_nf (dJ1_charAt_3b067.at 1 rfl) rfl rfl ?_
  refine sw_wlen (i := 1) (by decide) (dJ1_charAt_3b067.at 2 rfl) ?_
  refine sw_callS (post' := post) (B' := B0) (As := [vi (3), vi (((wlen 1 : Nat) : Int))]) (mc := 0) (ms := 0) (dJ1_charAt_3b067.at 3 rfl) lk_J1_9 rfl rfl (Nat.le_of_ble_eq_true rfl) rfl (Nat.le_refl _) (Nat.le_refl _) ?_
  refine c_J0_checkIndex_df160 (x := 3) (y := (wlen 1)) (j := j + 0) hv.1 hv.2.1 ?_
  replace hv := hv.2.2
  refine sw_aload_nf (dJ1_charAt_3b067.at 4 rfl) rfl rfl ?_
  refine sw_iload_n (dJ1_charAt_3b067.at 5 rfl) rfl rfl ?_
  refine sw_wald (i := 1) (by decide) (dJ1_charAt_3b067.at 6 rfl) hv.1 hv.2.1 ?_
  replace hv := hv.2.2
  refine sw_sipush (dJ1_charAt_3b067.at 7 rfl) (by decide) ?_
  refine sw_iand (dJ1_charAt_3b067.at 8 rfl) ?_
  refine sw_i2c (dJ1_charAt_3b067.at 9 rfl) hv.1 ?_
  replace hv := hv.2
  exact sw_nret (dJ1_charAt_3b067.at 10 rfl) rfl hv.1 (Nat.le_refl _) (Nat.le_refl _) hv.2

theorem c_J1_charAt_3_3 {G : GG} {j nw nx gn : Nat} {g : Nat → Sh} {c : Nat → Nat → Int} {post : Option AV → AM → Prop} (K : post (some (vi (100))) (S nw nx g, 78 + gn, c)) : SM G (j + 3) mJ1_charAt_3b067 [vf 5, vi (3)] (S nw nx g, 78 + gn, c) 0 0 post := by
  refine sm_of wJ1_charAt_3b067 rfl (Nat.le_of_ble_eq_true rfl) ?_
  refine g_J1_charAt_3_3 ?_
  have e : and32 (wbyt 1 ((3 : Int).toNat)) 255 = 100 := by decide
  have e1 : 100 = and32 (wbyt 1 ((3 : Int).toNat)) 255 := e.symm
  refine ⟨?_, ?_, ⟨?_, ?_, ⟨?_, ⟨?_, ?_⟩⟩⟩⟩
  all_goals first | decide | exact K | (rw [e]; first | decide | exact K)

set_option maxHeartbeats 2000000 in
set_option maxRecDepth 20000 in
theorem g_J0_charAt_2_0 {G : GG} {j nw nx gn : Nat} {g : Nat → Sh} {c : Nat → Nat → Int} {post : Option AV → AM → Prop}  (hv : post (some (vi (103))) (S nw nx g, 78 + gn, c)) :
    SW G (j + 3) mJ0_charAt_5068e 0 [some (vf 2), some (vi (0))] [] (S nw nx g, 78 + gn, c) B0 post := by
  refine sw_aload_nf (dJ0_charAt_5068e.at 0 rfl) rfl rfl ?_
  refine sw_callF (B' := B0) (i := 0) (As := []) (by decide) (dJ0_charAt_5068e.at 1 rfl) lk_J0_492 rfl rfl (Nat.le_of_ble_eq_true rfl) rfl (Nat.le_refl _) (Nat.le_refl _) ?_
  refine c_J0_isLatin1_aae02_2 (j := j + 2)  ?_
  refine sw_if_eq (tgt := 16) (dJ0_charAt_5068e.at 2 rfl) (by decide) (by decide) (fun q => ?_) (fun q => ?_)
  · exact absurd q (by decide)
  · clear q
    refine sw_aload_nf (dJ0_charAt_5068e.at 3 rfl) rfl rfl ?_
    refine sw_gvalue (i := 0) (by decide) (dJ0_charAt_5068e.at 4 rfl) fj_J0_9 ?_
    refine sw_iload_n (dJ0_charAt_5068e.at 5 rfl) rfl rfl ?_
    refine sw_callS (post' := post) (B' := B0) (As := [vf 4, vi (0)]) (mc := 0) (ms := 0) (dJ0_charAt_5068e.at 6 rfl) lk_J0_495 rfl rfl (Nat.le_of_ble_eq_true rfl) rfl (Nat.le_refl _) (Nat.le_refl _) ?_
    refine c_J1_charAt_2_0 (j := j + 0)  ?_
    exact sw_nret (dJ0_charAt_5068e.at 7 rfl) rfl (by decide) (Nat.le_refl _) (Nat.le_refl _) hv

theorem c_J0_charAt_2_0 {G : GG} {j nw nx gn : Nat} {g : Nat → Sh} {c : Nat → Nat → Int} {post : Option AV → AM → Prop} (K : post (some (vi (103))) (S nw nx g, 78 + gn, c)) : SM G (j + 4) mJ0_charAt_5068e [vf 2, vi (0)] (S nw nx g, 78 + gn, c) 0 0 post := by
  refine sm_of wJ0_charAt_5068e rfl (Nat.le_of_ble_eq_true rfl) ?_
  refine g_J0_charAt_2_0 ?_
  refine ?_
  all_goals first | exact K | decide

set_option maxHeartbeats 2000000 in
set_option maxRecDepth 20000 in
theorem g_J0_charAt_2_1 {G : GG} {j nw nx gn : Nat} {g : Nat → Sh} {c : Nat → Nat → Int} {post : Option AV → AM → Prop}  (hv : post (some (vi (114))) (S nw nx g, 78 + gn, c)) :
    SW G (j + 3) mJ0_charAt_5068e 0 [some (vf 2), some (vi (1))] [] (S nw nx g, 78 + gn, c) B0 post := by
  refine sw_aload_nf (dJ0_charAt_5068e.at 0 rfl) rfl rfl ?_
  refine sw_callF (B' := B0) (i := 0) (As := []) (by decide) (dJ0_charAt_5068e.at 1 rfl) lk_J0_492 rfl rfl (Nat.le_of_ble_eq_true rfl) rfl (Nat.le_refl _) (Nat.le_refl _) ?_
  refine c_J0_isLatin1_aae02_2 (j := j + 2)  ?_
  refine sw_if_eq (tgt := 16) (dJ0_charAt_5068e.at 2 rfl) (by decide) (by decide) (fun q => ?_) (fun q => ?_)
  · exact absurd q (by decide)
  · clear q
    refine sw_aload_nf (dJ0_charAt_5068e.at 3 rfl) rfl rfl ?_
    refine sw_gvalue (i := 0) (by decide) (dJ0_charAt_5068e.at 4 rfl) fj_J0_9 ?_
    refine sw_iload_n (dJ0_charAt_5068e.at 5 rfl) rfl rfl ?_
    refine sw_callS (post' := post) (B' := B0) (As := [vf 4, vi (1)]) (mc := 0) (ms := 0) (dJ0_charAt_5068e.at 6 rfl) lk_J0_495 rfl rfl (Nat.le_of_ble_eq_true rfl) rfl (Nat.le_refl _) (Nat.le_refl _) ?_
    refine c_J1_charAt_2_1 (j := j + 0)  ?_
    exact sw_nret (dJ0_charAt_5068e.at 7 rfl) rfl (by decide) (Nat.le_refl _) (Nat.le_refl _) hv

theorem c_J0_charAt_2_1 {G : GG} {j nw nx gn : Nat} {g : Nat → Sh} {c : Nat → Nat → Int} {post : Option AV → AM → Prop} (K : post (some (vi (114))) (S nw nx g, 78 + gn, c)) : SM G (j + 4) mJ0_charAt_5068e [vf 2, vi (1)] (S nw nx g, 78 + gn, c) 0 0 post := by
  refine sm_of wJ0_charAt_5068e rfl (Nat.le_of_ble_eq_true rfl) ?_
  refine g_J0_charAt_2_1 ?_
  refine ?_
  all_goals first | exact K | decide

set_option maxHeartbeats 2000000 in
set_option maxRecDepth 20000 in
theorem g_J0_charAt_2_2 {G : GG} {j nw nx gn : Nat} {g : Nat → Sh} {c : Nat → Nat → Int} {post : Option AV → AM → Prop}  (hv : post (some (vi (111))) (S nw nx g, 78 + gn, c)) :
    SW G (j + 3) mJ0_charAt_5068e 0 [some (vf 2), some (vi (2))] [] (S nw nx g, 78 + gn, c) B0 post := by
  refine sw_aload_nf (dJ0_charAt_5068e.at 0 rfl) rfl rfl ?_
  refine sw_callF (B' := B0) (i := 0) (As := []) (by decide) (dJ0_charAt_5068e.at 1 rfl) lk_J0_492 rfl rfl (Nat.le_of_ble_eq_true rfl) rfl (Nat.le_refl _) (Nat.le_refl _) ?_
  refine c_J0_isLatin1_aae02_2 (j := j + 2)  ?_
  refine sw_if_eq (tgt := 16) (dJ0_charAt_5068e.at 2 rfl) (by decide) (by decide) (fun q => ?_) (fun q => ?_)
  · exact absurd q (by decide)
  · clear q
    refine sw_aload_nf (dJ0_charAt_5068e.at 3 rfl) rfl rfl ?_
    refine sw_gvalue (i := 0) (by decide) (dJ0_charAt_5068e.at 4 rfl) fj_J0_9 ?_
    refine sw_iload_n (dJ0_charAt_5068e.at 5 rfl) rfl rfl ?_
    refine sw_callS (post' := post) (B' := B0) (As := [vf 4, vi (2)]) (mc := 0) (ms := 0) (dJ0_charAt_5068e.at 6 rfl) lk_J0_495 rfl rfl (Nat.le_of_ble_eq_true rfl) rfl (Nat.le_refl _) (Nat.le_refl _) ?_
    refine c_J1_charAt_2_2 (j := j + 0)  ?_
    exact sw_nret (dJ0_charAt_5068e.at 7 rfl) rfl (by decide) (Nat.le_refl _) (Nat.le_refl _) hv

theorem c_J0_charAt_2_2 {G : GG} {j nw nx gn : Nat} {g : Nat → Sh} {c : Nat → Nat → Int} {post : Option AV → AM → Prop} (K : post (some (vi (111))) (S nw nx g, 78 + gn, c)) : SM G (j + 4) mJ0_charAt_5068e [vf 2, vi (2)] (S nw nx g, 78 + gn, c) 0 0 post := by
  refine sm_of wJ0_charAt_5068e rfl (Nat.le_of_ble_eq_true rfl) ?_
  refine g_J0_charAt_2_2 ?_
  refine ?_
  all_goals first | exact K | decide

set_option maxHeartbeats 2000000 in
set_option maxRecDepth 20000 in
theorem g_J0_charAt_2_3 {G : GG} {j nw nx gn : Nat} {g : Nat → Sh} {c : Nat → Nat → Int} {post : Option AV → AM → Prop}  (hv : post (some (vi (117))) (S nw nx g, 78 + gn, c)) :
    SW G (j + 3) mJ0_charAt_5068e 0 [some (vf 2), some (vi (3))] [] (S nw nx g, 78 + gn, c) B0 post := by
  refine sw_aload_nf (dJ0_charAt_5068e.at 0 rfl) rfl rfl ?_
  refine sw_callF (B' := B0) (i := 0) (As := []) (by decide) (dJ0_charAt_5068e.at 1 rfl) lk_J0_492 rfl rfl (Nat.le_of_ble_eq_true rfl) rfl (Nat.le_refl _) (Nat.le_refl _) ?_
  refine c_J0_isLatin1_aae02_2 (j := j + 2)  ?_
  refine sw_if_eq (tgt := 16) (dJ0_charAt_5068e.at 2 rfl) (by decide) (by decide) (fun q => ?_) (fun q => ?_)
  · exact absurd q (by decide)
  · clear q
    refine sw_aload_nf (dJ0_charAt_5068e.at 3 rfl) rfl rfl ?_
    refine sw_gvalue (i := 0) (by decide) (dJ0_charAt_5068e.at 4 rfl) fj_J0_9 ?_
    refine sw_iload_n (dJ0_charAt_5068e.at 5 rfl) rfl rfl ?_
    refine sw_callS (post' := post) (B' := B0) (As := [vf 4, vi (3)]) (mc := 0) (ms := 0) (dJ0_charAt_5068e.at 6 rfl) lk_J0_495 rfl rfl (Nat.le_of_ble_eq_true rfl) rfl (Nat.le_refl _) (Nat.le_refl _) ?_
    refine c_J1_charAt_2_3 (j := j + 0)  ?_
    exact sw_nret (dJ0_charAt_5068e.at 7 rfl) rfl (by decide) (Nat.le_refl _) (Nat.le_refl _) hv

theorem c_J0_charAt_2_3 {G : GG} {j nw nx gn : Nat} {g : Nat → Sh} {c : Nat → Nat → Int} {post : Option AV → AM → Prop} (K : post (some (vi (117))) (S nw nx g, 78 + gn, c)) : SM G (j + 4) mJ0_charAt_5068e [vf 2, vi (3)] (S nw nx g, 78 + gn, c) 0 0 post := by
  refine sm_of wJ0_charAt_5068e rfl (Nat.le_of_ble_eq_true rfl) ?_
  refine g_J0_charAt_2_3 ?_
  refine ?_
  all_goals first | exact K | decide

set_option maxHeartbeats 2000000 in
set_option maxRecDepth 20000 in
theorem g_J0_charAt_2_4 {G : GG} {j nw nx gn : Nat} {g : Nat → Sh} {c : Nat → Nat → Int} {post : Option AV → AM → Prop}  (hv : post (some (vi (112))) (S nw nx g, 78 + gn, c)) :
    SW G (j + 3) mJ0_charAt_5068e 0 [some (vf 2), some (vi (4))] [] (S nw nx g, 78 + gn, c) B0 post := by
  refine sw_aload_nf (dJ0_charAt_5068e.at 0 rfl) rfl rfl ?_
  refine sw_callF (B' := B0) (i := 0) (As := []) (by decide) (dJ0_charAt_5068e.at 1 rfl) lk_J0_492 rfl rfl (Nat.le_of_ble_eq_true rfl) rfl (Nat.le_refl _) (Nat.le_refl _) ?_
  refine c_J0_isLatin1_aae02_2 (j := j + 2)  ?_
  refine sw_if_eq (tgt := 16) (dJ0_charAt_5068e.at 2 rfl) (by decide) (by decide) (fun q => ?_) (fun q => ?_)
  · exact absurd q (by decide)
  · clear q
    refine sw_aload_nf (dJ0_charAt_5068e.at 3 rfl) rfl rfl ?_
    refine sw_gvalue (i := 0) (by decide) (dJ0_charAt_5068e.at 4 rfl) fj_J0_9 ?_
    refine sw_iload_n (dJ0_charAt_5068e.at 5 rfl) rfl rfl ?_
    refine sw_callS (post' := post) (B' := B0) (As := [vf 4, vi (4)]) (mc := 0) (ms := 0) (dJ0_charAt_5068e.at 6 rfl) lk_J0_495 rfl rfl (Nat.le_of_ble_eq_true rfl) rfl (Nat.le_refl _) (Nat.le_refl _) ?_
    refine c_J1_charAt_2_4 (j := j + 0)  ?_
    exact sw_nret (dJ0_charAt_5068e.at 7 rfl) rfl (by decide) (Nat.le_refl _) (Nat.le_refl _) hv

theorem c_J0_charAt_2_4 {G : GG} {j nw nx gn : Nat} {g : Nat → Sh} {c : Nat → Nat → Int} {post : Option AV → AM → Prop} (K : post (some (vi (112))) (S nw nx g, 78 + gn, c)) : SM G (j + 4) mJ0_charAt_5068e [vf 2, vi (4)] (S nw nx g, 78 + gn, c) 0 0 post := by
  refine sm_of wJ0_charAt_5068e rfl (Nat.le_of_ble_eq_true rfl) ?_
  refine g_J0_charAt_2_4 ?_
  refine ?_
  all_goals first | exact K | decide

set_option maxHeartbeats 2000000 in
set_option maxRecDepth 20000 in
theorem g_J0_charAt_3_0 {G : GG} {j nw nx gn : Nat} {g : Nat → Sh} {c : Nat → Nat → Int} {post : Option AV → AM → Prop}  (hv : post (some (vi (98))) (S nw nx g, 78 + gn, c)) :
    SW G (j + 3) mJ0_charAt_5068e 0 [some (vf 3), some (vi (0))] [] (S nw nx g, 78 + gn, c) B0 post := by
  refine sw_aload_nf (dJ0_charAt_5068e.at 0 rfl) rfl rfl ?_
  refine sw_callF (B' := B0) (i := 1) (As := []) (by decide) (dJ0_charAt_5068e.at 1 rfl) lk_J0_492 rfl rfl (Nat.le_of_ble_eq_true rfl) rfl (Nat.le_refl _) (Nat.le_refl _) ?_
  refine c_J0_isLatin1_aae02_3 (j := j + 2)  ?_
  refine sw_if_eq (tgt := 16) (dJ0_charAt_5068e.at 2 rfl) (by decide) (by decide) (fun q => ?_) (fun q => ?_)
  · exact absurd q (by decide)
  · clear q
    refine sw_aload_nf (dJ0_charAt_5068e.at 3 rfl) rfl rfl ?_
    refine sw_gvalue (i := 1) (by decide) (dJ0_charAt_5068e.at 4 rfl) fj_J0_9 ?_
    refine sw_iload_n (dJ0_charAt_5068e.at 5 rfl) rfl rfl ?_
    refine sw_callS (post' := post) (B' := B0) (As := [vf 5, vi (0)]) (mc := 0) (ms := 0) (dJ0_charAt_5068e.at 6 rfl) lk_J0_495 rfl rfl (Nat.le_of_ble_eq_true rfl) rfl (Nat.le_refl _) (Nat.le_refl _) ?_
    refine c_J1_charAt_3_0 (j := j + 0)  ?_
    exact sw_nret (dJ0_charAt_5068e.at 7 rfl) rfl (by decide) (Nat.le_refl _) (Nat.le_refl _) hv

theorem c_J0_charAt_3_0 {G : GG} {j nw nx gn : Nat} {g : Nat → Sh} {c : Nat → Nat → Int} {post : Option AV → AM → Prop} (K : post (some (vi (98))) (S nw nx g, 78 + gn, c)) : SM G (j + 4) mJ0_charAt_5068e [vf 3, vi (0)] (S nw nx g, 78 + gn, c) 0 0 post := by
  refine sm_of wJ0_charAt_5068e rfl (Nat.le_of_ble_eq_true rfl) ?_
  refine g_J0_charAt_3_0 ?_
  refine ?_
  all_goals first | exact K | decide

set_option maxHeartbeats 2000000 in
set_option maxRecDepth 20000 in
theorem g_J0_charAt_3_1 {G : GG} {j nw nx gn : Nat} {g : Nat → Sh} {c : Nat → Nat → Int} {post : Option AV → AM → Prop}  (hv : post (some (vi (111))) (S nw nx g, 78 + gn, c)) :
    SW G (j + 3) mJ0_charAt_5068e 0 [some (vf 3), some (vi (1))] [] (S nw nx g, 78 + gn, c) B0 post := by
  refine sw_aload_nf (dJ0_charAt_5068e.at 0 rfl) rfl rfl ?_
  refine sw_callF (B' := B0) (i := 1) (As := []) (by decide) (dJ0_charAt_5068e.at 1 rfl) lk_J0_492 rfl rfl (Nat.le_of_ble_eq_true rfl) rfl (Nat.le_refl _) (Nat.le_refl _) ?_
  refine c_J0_isLatin1_aae02_3 (j := j + 2)  ?_
  refine sw_if_eq (tgt := 16) (dJ0_charAt_5068e.at 2 rfl) (by decide) (by decide) (fun q => ?_) (fun q => ?_)
  · exact absurd q (by decide)
  · clear q
    refine sw_aload_nf (dJ0_charAt_5068e.at 3 rfl) rfl rfl ?_
    refine sw_gvalue (i := 1) (by decide) (dJ0_charAt_5068e.at 4 rfl) fj_J0_9 ?_
    refine sw_iload_n (dJ0_charAt_5068e.at 5 rfl) rfl rfl ?_
    refine sw_callS (post' := post) (B' := B0) (As := [vf 5, vi (1)]) (mc := 0) (ms := 0) (dJ0_charAt_5068e.at 6 rfl) lk_J0_495 rfl rfl (Nat.le_of_ble_eq_true rfl) rfl (Nat.le_refl _) (Nat.le_refl _) ?_
    refine c_J1_charAt_3_1 (j := j + 0)  ?_
    exact sw_nret (dJ0_charAt_5068e.at 7 rfl) rfl (by decide) (Nat.le_refl _) (Nat.le_refl _) hv

theorem c_J0_charAt_3_1 {G : GG} {j nw nx gn : Nat} {g : Nat → Sh} {c : Nat → Nat → Int} {post : Option AV → AM → Prop} (K : post (some (vi (111))) (S nw nx g, 78 + gn, c)) : SM G (j + 4) mJ0_charAt_5068e [vf 3, vi (1)] (S nw nx g, 78 + gn, c) 0 0 post := by
  refine sm_of wJ0_charAt_5068e rfl (Nat.le_of_ble_eq_true rfl) ?_
  refine g_J0_charAt_3_1 ?_
  refine ?_
  all_goals first | exact K | decide

set_option maxHeartbeats 2000000 in
set_option maxRecDepth 20000 in
theorem g_J0_charAt_3_2 {G : GG} {j nw nx gn : Nat} {g : Nat → Sh} {c : Nat → Nat → Int} {post : Option AV → AM → Prop}  (hv : post (some (vi (110))) (S nw nx g, 78 + gn, c)) :
    SW G (j + 3) mJ0_charAt_5068e 0 [some (vf 3), some (vi (2))] [] (S nw nx g, 78 + gn, c) B0 post := by
  refine sw_aload_nf (dJ0_charAt_5068e.at 0 rfl) rfl rfl ?_
  refine sw_callF (B' := B0) (i := 1) (As := []) (by decide) (dJ0_charAt_5068e.at 1 rfl) lk_J0_492 rfl rfl (Nat.le_of_ble_eq_true rfl) rfl (Nat.le_refl _) (Nat.le_refl _) ?_
  refine c_J0_isLatin1_aae02_3 (j := j + 2)  ?_
  refine sw_if_eq (tgt := 16) (dJ0_charAt_5068e.at 2 rfl) (by decide) (by decide) (fun q => ?_) (fun q => ?_)
  · exact absurd q (by decide)
  · clear q
    refine sw_aload_nf (dJ0_charAt_5068e.at 3 rfl) rfl rfl ?_
    refine sw_gvalue (i := 1) (by decide) (dJ0_charAt_5068e.at 4 rfl) fj_J0_9 ?_
    refine sw_iload_n (dJ0_charAt_5068e.at 5 rfl) rfl rfl ?_
    refine sw_callS (post' := post) (B' := B0) (As := [vf 5, vi (2)]) (mc := 0) (ms := 0) (dJ0_charAt_5068e.at 6 rfl) lk_J0_495 rfl rfl (Nat.le_of_ble_eq_true rfl) rfl (Nat.le_refl _) (Nat.le_refl _) ?_
    refine c_J1_charAt_3_2 (j := j + 0)  ?_
    exact sw_nret (dJ0_charAt_5068e.at 7 rfl) rfl (by decide) (Nat.le_refl _) (Nat.le_refl _) hv

theorem c_J0_charAt_3_2 {G : GG} {j nw nx gn : Nat} {g : Nat → Sh} {c : Nat → Nat → Int} {post : Option AV → AM → Prop} (K : post (some (vi (110))) (S nw nx g, 78 + gn, c)) : SM G (j + 4) mJ0_charAt_5068e [vf 3, vi (2)] (S nw nx g, 78 + gn, c) 0 0 post := by
  refine sm_of wJ0_charAt_5068e rfl (Nat.le_of_ble_eq_true rfl) ?_
  refine g_J0_charAt_3_2 ?_
  refine ?_
  all_goals first | exact K | decide

set_option maxHeartbeats 2000000 in
set_option maxRecDepth 20000 in
theorem g_J0_charAt_3_3 {G : GG} {j nw nx gn : Nat} {g : Nat → Sh} {c : Nat → Nat → Int} {post : Option AV → AM → Prop}  (hv : post (some (vi (100))) (S nw nx g, 78 + gn, c)) :
    SW G (j + 3) mJ0_charAt_5068e 0 [some (vf 3), some (vi (3))] [] (S nw nx g, 78 + gn, c) B0 post := by
  refine sw_aload_nf (dJ0_charAt_5068e.at 0 rfl) rfl rfl ?_
  refine sw_callF (B' := B0) (i := 1) (As := []) (by decide) (dJ0_charAt_5068e.at 1 rfl) lk_J0_492 rfl rfl (Nat.le_of_ble_eq_true rfl) rfl (Nat.le_refl _) (Nat.le_refl _) ?_
  refine c_J0_isLatin1_aae02_3 (j := j + 2)  ?_
  refine sw_if_eq (tgt := 16) (dJ0_charAt_5068e.at 2 rfl) (by decide) (by decide) (fun q => ?_) (fun q => ?_)
  · exact absurd q (by decide)
  · clear q
    refine sw_aload_nf (dJ0_charAt_5068e.at 3 rfl) rfl rfl ?_
    refine sw_gvalue (i := 1) (by decide) (dJ0_charAt_5068e.at 4 rfl) fj_J0_9 ?_
    refine sw_iload_n (dJ0_charAt_5068e.at 5 rfl) rfl rfl ?_
    refine sw_callS (post' := post) (B' := B0) (As := [vf 5, vi (3)]) (mc := 0) (ms := 0) (dJ0_charAt_5068e.at 6 rfl) lk_J0_495 rfl rfl (Nat.le_of_ble_eq_true rfl) rfl (Nat.le_refl _) (Nat.le_refl _) ?_
    refine c_J1_charAt_3_3 (j := j + 0)  ?_
    exact sw_nret (dJ0_charAt_5068e.at 7 rfl) rfl (by decide) (Nat.le_refl _) (Nat.le_refl _) hv

theorem c_J0_charAt_3_3 {G : GG} {j nw nx gn : Nat} {g : Nat → Sh} {c : Nat → Nat → Int} {post : Option AV → AM → Prop} (K : post (some (vi (100))) (S nw nx g, 78 + gn, c)) : SM G (j + 4) mJ0_charAt_5068e [vf 3, vi (3)] (S nw nx g, 78 + gn, c) 0 0 post := by
  refine sm_of wJ0_charAt_5068e rfl (Nat.le_of_ble_eq_true rfl) ?_
  refine g_J0_charAt_3_3 ?_
  refine ?_
  all_goals first | exact K | decide

set_option maxHeartbeats 2000000 in
set_option maxRecDepth 20000 in
theorem g_X6_isWord_2 {G : GG} {j nw nx gn : Nat} {g : Nat → Sh} {c : Nat → Nat → Int} {post : Option AV → AM → Prop} {nb : Nat → Nat} {n : Nat} {tk : Nat} {tf : Nat} {tt : Nat} {rr : Nat} {ll : Nat} {ff : Nat} {pl : Int} {bd : Nat → Nat} (hS : c 1 1 = ((n : Nat) : Int)) (hn : n ≤ 300) (hB : ∀ i, nb i < 256) (hT : ∀ i, i < 300 → c 2 i = sb (nb i))  (hv : (tk < 2147483648) ∧ (((tk ≠ 1) → post (some (vi (0))) (S nw nx g, 78 + gn, (pm c tk tf tt rr ll ff pl bd))) ∧ ((tk = 1) → (tf ≤ tt) ∧ ((tt - tf < 2147483648) ∧ (((tt - tf = 5) → (tf + 0 < 300) ∧ ((-2147483648 ≤ sb (nb (tf + 0)) ∧ sb (nb (tf + 0)) < 2147483648) ∧ (((sb (nb (tf + 0)) = 103) → (tf + 1 < 300) ∧ ((-2147483648 ≤ sb (nb (tf + 1)) ∧ sb (nb (tf + 1)) < 2147483648) ∧ (((sb (nb (tf + 1)) = 114) → (tf + 2 < 300) ∧ ((-2147483648 ≤ sb (nb (tf + 2)) ∧ sb (nb (tf + 2)) < 2147483648) ∧ (((sb (nb (tf + 2)) = 111) → (tf + 3 < 300) ∧ ((-2147483648 ≤ sb (nb (tf + 3)) ∧ sb (nb (tf + 3)) < 2147483648) ∧ (((sb (nb (tf + 3)) = 117) → (tf + 4 < 300) ∧ ((-2147483648 ≤ sb (nb (tf + 4)) ∧ sb (nb (tf + 4)) < 2147483648) ∧ (((sb (nb (tf + 4)) = 112) → post (some (vi (1))) (S nw nx g, 78 + gn, (pm c tk tf tt rr ll ff pl bd))) ∧ ((¬ (sb (nb (tf + 4)) = 112)) → post (some (vi (0))) (S nw nx g, 78 + gn, (pm c tk tf tt rr ll ff pl bd)))))) ∧ ((¬ (sb (nb (tf + 3)) = 117)) → post (some (vi (0))) (S nw nx g, 78 + gn, (pm c tk tf tt rr ll ff pl bd)))))) ∧ ((¬ (sb (nb (tf + 2)) = 111)) → post (some (vi (0))) (S nw nx g, 78 + gn, (pm c tk tf tt rr ll ff pl bd)))))) ∧ ((¬ (sb (nb (tf + 1)) = 114)) → post (some (vi (0))) (S nw nx g, 78 + gn, (pm c tk tf tt rr ll ff pl bd)))))) ∧ ((¬ (sb (nb (tf + 0)) = 103)) → post (some (vi (0))) (S nw nx g, 78 + gn, (pm c tk tf tt rr ll ff pl bd)))))) ∧ ((¬ (tt - tf = 5)) → post (some (vi (0))) (S nw nx g, 78 + gn, (pm c tk tf tt rr ll ff pl bd)))))))) :
    SW G (j + 4) mX6_isWord 0 [some (vr (1)), some (vf 2), none] [] (S nw nx g, 78 + gn, (pm c tk tf tt rr ll ff pl bd)) B0 post := by
  refine sw_aload_n (dX6_isWord.at 0 rfl) rfl rfl ?_
  refine sw_getIE (w := ((tk : Nat) : Int)) (dX6_isWord.at 1 rfl) fp_X6_32 (S_lt 1 (by decide)) (S_1 nw nx g) rfl rfl ?_
  refine sw_iconst (dX6_isWord.at 2 rfl) ?_
  refine sw_icmpN_ne tk 1 (tgt := 24) (dX6_isWord.at 3 rfl) (by decide) hv.1 (by decide) (fun q => ?_) (fun q => ?_)
  · replace hv := hv.2.1 q
    refine sw_iconst (dX6_isWord.at 12 rfl) ?_
    exact sw_zret (dX6_isWord.at 13 rfl) rfl (by decide) (Nat.le_refl _) (Nat.le_refl _) hv
  · replace hv := hv.2.2 q
    refine sw_aload_n (dX6_isWord.at 4 rfl) rfl rfl ?_
    refine sw_getIE (w := ((tt : Nat) : Int)) (dX6_isWord.at 5 rfl) fp_X6_19 (S_lt 1 (by decide)) (S_1 nw nx g) rfl rfl ?_
    refine sw_aload_n (dX6_isWord.at 6 rfl) rfl rfl ?_
    refine sw_getIE (w := ((tf : Nat) : Int)) (dX6_isWord.at 7 rfl) fp_X6_25 (S_lt 1 (by decide)) (S_1 nw nx g) rfl rfl ?_
    refine sw_isub (dX6_isWord.at 8 rfl) ?_
    refine sw_topI (y := ((tt - tf : Nat) : Int)) (congrArg _ (Int.ofNat_sub hv.1).symm) ?_
    replace hv := hv.2
    refine sw_aload_nf (dX6_isWord.at 9 rfl) rfl rfl ?_
    refine sw_callF (B' := B0) (i := 0) (As := []) (by decide) (dX6_isWord.at 10 rfl) lk_X6_35 rfl rfl (Nat.le_of_ble_eq_true rfl) rfl (Nat.le_refl _) (Nat.le_refl _) ?_
    refine c_J0_length_2 (j := j + 2)  ?_
    refine sw_icmpN_eq (tt - tf) 5 (tgt := 26) (dX6_isWord.at 11 rfl) (by decide) hv.1 (by decide) (fun q => ?_) (fun q => ?_)
    · replace hv := hv.2.1 q
      refine sw_iconst (dX6_isWord.at 14 rfl) ?_
      refine sw_istore_n (lo' := [some (vr (1)), some (vf 2), some (vi (0))]) (dX6_isWord.at 15 rfl) rfl (by decide) rfl ?_
      refine sw_iload_n (dX6_isWord.at 16 rfl) rfl rfl ?_
      refine sw_aload_nf (dX6_isWord.at 17 rfl) rfl rfl ?_
      refine sw_callF (B' := B0) (i := 0) (As := []) (by decide) (dX6_isWord.at 18 rfl) lk_X6_35 rfl rfl (Nat.le_of_ble_eq_true rfl) rfl (Nat.le_refl _) (Nat.le_refl _) ?_
      refine c_J0_length_2 (j := j + 2)  ?_
      refine sw_icmp_ge (tgt := 63) (dX6_isWord.at 19 rfl) (by decide) (by decide) (by decide) (fun q => ?_) (fun q => ?_)
      · exact absurd q (by decide)
      · clear q
        refine sw_aload_n (dX6_isWord.at 20 rfl) rfl rfl ?_
        refine sw_getR (dX6_isWord.at 21 rfl) fp_X6_9 (S_lt 1 (by decide)) (S_1 nw nx g) rfl rfl ?_
        refine sw_aload_n (dX6_isWord.at 22 rfl) rfl rfl ?_
        refine sw_getIE (w := ((tf : Nat) : Int)) (dX6_isWord.at 23 rfl) fp_X6_25 (S_lt 1 (by decide)) (S_1 nw nx g) rfl rfl ?_
        refine sw_iload_n (dX6_isWord.at 24 rfl) rfl rfl ?_
        refine sw_iadd (dX6_isWord.at 25 rfl) ?_
        refine sw_topI (y := ((tf + 0 : Nat) : Int)) (by first | rfl | (congr 1)) ?_
        refine sw_baldN (tf + 0) (w := sb (nb (tf + 0))) (dX6_isWord.at 26 rfl) (S_lt 2 (by decide)) (S_2 nw nx g) (by decide) hv.1 (hT _ hv.1) ?_
        replace hv := hv.2
        refine sw_aload_nf (dX6_isWord.at 27 rfl) rfl rfl ?_
        refine sw_iload_n (dX6_isWord.at 28 rfl) rfl rfl ?_
        refine sw_callF (B' := B0) (i := 0) (As := [vi (0)]) (by decide) (dX6_isWord.at 29 rfl) lk_X6_41 rfl rfl (Nat.le_of_ble_eq_true rfl) rfl (Nat.le_refl _) (Nat.le_refl _) ?_
        refine c_J0_charAt_2_0 (j := j + 0)  ?_
        refine sw_icmp_eq (tgt := 57) (dX6_isWord.at 30 rfl) (by decide) hv.1 (by decide) (fun q => ?_) (fun q => ?_)
        · replace hv := hv.2.1 q
          refine sw_iinc (lo' := [some (vr (1)), some (vf 2), some (vi (1))]) (dX6_isWord.at 33 rfl) rfl (by decide) rfl ?_
          refine sw_goto (tgt := 28) (dX6_isWord.at 34 rfl) (by decide) ?_
          refine sw_iload_n (dX6_isWord.at 16 rfl) rfl rfl ?_
          refine sw_aload_nf (dX6_isWord.at 17 rfl) rfl rfl ?_
          refine sw_callF (B' := B0) (i := 0) (As := []) (by decide) (dX6_isWord.at 18 rfl) lk_X6_35 rfl rfl (Nat.le_of_ble_eq_true rfl) rfl (Nat.le_refl _) (Nat.le_refl _) ?_
          refine c_J0_length_2 (j := j + 2)  ?_
          refine sw_icmp_ge (tgt := 63) (dX6_isWord.at 19 rfl) (by decide) (by decide) (by decide) (fun q => ?_) (fun q => ?_)
          · exact absurd q (by decide)
          · clear q
            refine sw_aload_n (dX6_isWord.at 20 rfl) rfl rfl ?_
            refine sw_getR (dX6_isWord.at 21 rfl) fp_X6_9 (S_lt 1 (by decide)) (S_1 nw nx g) rfl rfl ?_
            refine sw_aload_n (dX6_isWord.at 22 rfl) rfl rfl ?_
            refine sw_getIE (w := ((tf : Nat) : Int)) (dX6_isWord.at 23 rfl) fp_X6_25 (S_lt 1 (by decide)) (S_1 nw nx g) rfl rfl ?_
            refine sw_iload_n (dX6_isWord.at 24 rfl) rfl rfl ?_
            refine sw_iadd (dX6_isWord.at 25 rfl) ?_
            refine sw_topI (y := ((tf + 1 : Nat) : Int)) (by first | rfl | (congr 1)) ?_
            refine sw_baldN (tf + 1) (w := sb (nb (tf + 1))) (dX6_isWord.at 26 rfl) (S_lt 2 (by decide)) (S_2 nw nx g) (by decide) hv.1 (hT _ hv.1) ?_
            replace hv := hv.2
            refine sw_aload_nf (dX6_isWord.at 27 rfl) rfl rfl ?_
            refine sw_iload_n (dX6_isWord.at 28 rfl) rfl rfl ?_
            refine sw_callF (B' := B0) (i := 0) (As := [vi (1)]) (by decide) (dX6_isWord.at 29 rfl) lk_X6_41 rfl rfl (Nat.le_of_ble_eq_true rfl) rfl (Nat.le_refl _) (Nat.le_refl _) ?_
            refine c_J0_charAt_2_1 (j := j + 0)  ?_
            refine sw_icmp_eq (tgt := 57) (dX6_isWord.at 30 rfl) (by decide) hv.1 (by decide) (fun q => ?_) (fun q => ?_)
            · replace hv := hv.2.1 q
              refine sw_iinc (lo' := [some (vr (1)), some (vf 2), some (vi (2))]) (dX6_isWord.at 33 rfl) rfl (by decide) rfl ?_
              refine sw_goto (tgt := 28) (dX6_isWord.at 34 rfl) (by decide) ?_
              refine sw_iload_n (dX6_isWord.at 16 rfl) rfl rfl ?_
              refine sw_aload_nf (dX6_isWord.at 17 rfl) rfl rfl ?_
              refine sw_callF (B' := B0) (i := 0) (As := []) (by decide) (dX6_isWord.at 18 rfl) lk_X6_35 rfl rfl (Nat.le_of_ble_eq_true rfl) rfl (Nat.le_refl _) (Nat.le_refl _) ?_
              refine c_J0_length_2 (j := j + 2)  ?_
              refine sw_icmp_ge (tgt := 63) (dX6_isWord.at 19 rfl) (by decide) (by decide) (by decide) (fun q => ?_) (fun q => ?_)
              · exact absurd q (by decide)
              · clear q
                refine sw_aload_n (dX6_isWord.at 20 rfl) rfl rfl ?_
                refine sw_getR (dX6_isWord.at 21 rfl) fp_X6_9 (S_lt 1 (by decide)) (S_1 nw nx g) rfl rfl ?_
                refine sw_aload_n (dX6_isWord.at 22 rfl) rfl rfl ?_
                refine sw_getIE (w := ((tf : Nat) : Int)) (dX6_isWord.at 23 rfl) fp_X6_25 (S_lt 1 (by decide)) (S_1 nw nx g) rfl rfl ?_
                refine sw_iload_n (dX6_isWord.at 24 rfl) rfl rfl ?_
                refine sw_iadd (dX6_isWord.at 25 rfl) ?_
                refine sw_topI (y := ((tf + 2 : Nat) : Int)) (by first | rfl | (congr 1)) ?_
                refine sw_baldN (tf + 2) (w := sb (nb (tf + 2))) (dX6_isWord.at 26 rfl) (S_lt 2 (by decide)) (S_2 nw nx g) (by decide) hv.1 (hT _ hv.1) ?_
                replace hv := hv.2
                refine sw_aload_nf (dX6_isWord.at 27 rfl) rfl rfl ?_
                refine sw_iload_n (dX6_isWord.at 28 rfl) rfl rfl ?_
                refine sw_callF (B' := B0) (i := 0) (As := [vi (2)]) (by decide) (dX6_isWord.at 29 rfl) lk_X6_41 rfl rfl (Nat.le_of_ble_eq_true rfl) rfl (Nat.le_refl _) (Nat.le_refl _) ?_
                refine c_J0_charAt_2_2 (j := j + 0)  ?_
                refine sw_icmp_eq (tgt := 57) (dX6_isWord.at 30 rfl) (by decide) hv.1 (by decide) (fun q => ?_) (fun q => ?_)
                · replace hv := hv.2.1 q
                  refine sw_iinc (lo' := [some (vr (1)), some (vf 2), some (vi (3))]) (dX6_isWord.at 33 rfl) rfl (by decide) rfl ?_
                  refine sw_goto (tgt := 28) (dX6_isWord.at 34 rfl) (by decide) ?_
                  refine sw_iload_n (dX6_isWord.at 16 rfl) rfl rfl ?_
                  refine sw_aload_nf (dX6_isWord.at 17 rfl) rfl rfl ?_
                  refine sw_callF (B' := B0) (i := 0) (As := []) (by decide) (dX6_isWord.at 18 rfl) lk_X6_35 rfl rfl (Nat.le_of_ble_eq_true rfl) rfl (Nat.le_refl _) (Nat.le_refl _) ?_
                  refine c_J0_length_2 (j := j + 2)  ?_
                  refine sw_icmp_ge (tgt := 63) (dX6_isWord.at 19 rfl) (by decide) (by decide) (by decide) (fun q => ?_) (fun q => ?_)
                  · exact absurd q (by decide)
                  · clear q
                    refine sw_aload_n (dX6_isWord.at 20 rfl) rfl rfl ?_
                    refine sw_getR (dX6_isWord.at 21 rfl) fp_X6_9 (S_lt 1 (by decide)) (S_1 nw nx g) rfl rfl ?_
                    refine sw_aload_n (dX6_isWord.at 22 rfl) rfl rfl ?_
                    refine sw_getIE (w := ((tf : Nat) : Int)) (dX6_isWord.at 23 rfl) fp_X6_25 (S_lt 1 (by decide)) (S_1 nw nx g) rfl rfl ?_
                    refine sw_iload_n (dX6_isWord.at 24 rfl) rfl rfl ?_
                    refine sw_iadd (dX6_isWord.at 25 rfl) ?_
                    refine sw_topI (y := ((tf + 3 : Nat) : Int)) (by first | rfl | (congr 1)) ?_
                    refine sw_baldN (tf + 3) (w := sb (nb (tf + 3))) (dX6_isWord.at 26 rfl) (S_lt 2 (by decide)) (S_2 nw nx g) (by decide) hv.1 (hT _ hv.1) ?_
                    replace hv := hv.2
                    refine sw_aload_nf (dX6_isWord.at 27 rfl) rfl rfl ?_
                    refine sw_iload_n (dX6_isWord.at 28 rfl) rfl rfl ?_
                    refine sw_callF (B' := B0) (i := 0) (As := [vi (3)]) (by decide) (dX6_isWord.at 29 rfl) lk_X6_41 rfl rfl (Nat.le_of_ble_eq_true rfl) rfl (Nat.le_refl _) (Nat.le_refl _) ?_
                    refine c_J0_charAt_2_3 (j := j + 0)  ?_
                    refine sw_icmp_eq (tgt := 57) (dX6_isWord.at 30 rfl) (by decide) hv.1 (by decide) (fun q => ?_) (fun q => ?_)
                    · replace hv := hv.2.1 q
                      refine sw_iinc (lo' := [some (vr (1)), some (vf 2), some (vi (4))]) (dX6_isWord.at 33 rfl) rfl (by decide) rfl ?_
                      refine sw_goto (tgt := 28) (dX6_isWord.at 34 rfl) (by decide) ?_
                      refine sw_iload_n (dX6_isWord.at 16 rfl) rfl rfl ?_
                      refine sw_aload_nf (dX6_isWord.at 17 rfl) rfl rfl ?_
                      refine sw_callF (B' := B0) (i := 0) (As := []) (by decide) (dX6_isWord.at 18 rfl) lk_X6_35 rfl rfl (Nat.le_of_ble_eq_true rfl) rfl (Nat.le_refl _) (Nat.le_refl _) ?_
                      refine c_J0_length_2 (j := j + 2)  ?_
                      refine sw_icmp_ge (tgt := 63) (dX6_isWord.at 19 rfl) (by decide) (by decide) (by decide) (fun q => ?_) (fun q => ?_)
                      · exact absurd q (by decide)
                      · clear q
                        refine sw_aload_n (dX6_isWord.at 20 rfl) rfl rfl ?_
                        refine sw_getR (dX6_isWord.at 21 rfl) fp_X6_9 (S_lt 1 (by decide)) (S_1 nw nx g) rfl rfl ?_
                        refine sw_aload_n (dX6_isWord.at 22 rfl) rfl rfl ?_
                        refine sw_getIE (w := ((tf : Nat) : Int)) (dX6_isWord.at 23 rfl) fp_X6_25 (S_lt 1 (by decide)) (S_1 nw nx g) rfl rfl ?_
                        refine sw_iload_n (dX6_isWord.at 24 rfl) rfl rfl ?_
                        refine sw_iadd (dX6_isWord.at 25 rfl) ?_
                        refine sw_topI (y := ((tf + 4 : Nat) : Int)) (by first | rfl | (congr 1)) ?_
                        refine sw_baldN (tf + 4) (w := sb (nb (tf + 4))) (dX6_isWord.at 26 rfl) (S_lt 2 (by decide)) (S_2 nw nx g) (by decide) hv.1 (hT _ hv.1) ?_
                        replace hv := hv.2
                        refine sw_aload_nf (dX6_isWord.at 27 rfl) rfl rfl ?_
                        refine sw_iload_n (dX6_isWord.at 28 rfl) rfl rfl ?_
                        refine sw_callF (B' := B0) (i := 0) (As := [vi (4)]) (by decide) (dX6_isWord.at 29 rfl) lk_X6_41 rfl rfl (Nat.le_of_ble_eq_true rfl) rfl (Nat.le_refl _) (Nat.le_refl _) ?_
                        refine c_J0_charAt_2_4 (j := j + 0)  ?_
                        refine sw_icmp_eq (tgt := 57) (dX6_isWord.at 30 rfl) (by decide) hv.1 (by decide) (fun q => ?_) (fun q => ?_)
                        · replace hv := hv.2.1 q
                          refine sw_iinc (lo' := [some (vr (1)), some (vf 2), some (vi (5))]) (dX6_isWord.at 33 rfl) rfl (by decide) rfl ?_
                          refine sw_goto (tgt := 28) (dX6_isWord.at 34 rfl) (by decide) ?_
                          refine sw_iload_n (dX6_isWord.at 16 rfl) rfl rfl ?_
                          refine sw_aload_nf (dX6_isWord.at 17 rfl) rfl rfl ?_
                          refine sw_callF (B' := B0) (i := 0) (As := []) (by decide) (dX6_isWord.at 18 rfl) lk_X6_35 rfl rfl (Nat.le_of_ble_eq_true rfl) rfl (Nat.le_refl _) (Nat.le_refl _) ?_
                          refine c_J0_length_2 (j := j + 2)  ?_
                          refine sw_icmp_ge (tgt := 63) (dX6_isWord.at 19 rfl) (by decide) (by decide) (by decide) (fun q => ?_) (fun q => ?_)
                          · clear q
                            refine sw_iconst (dX6_isWord.at 35 rfl) ?_
                            exact sw_zret (dX6_isWord.at 36 rfl) rfl (by decide) (Nat.le_refl _) (Nat.le_refl _) hv
                          · exact absurd q (by decide)
                        · replace hv := hv.2.2 q
                          refine sw_iconst (dX6_isWord.at 31 rfl) ?_
                          exact sw_zret (dX6_isWord.at 32 rfl) rfl (by decide) (Nat.le_refl _) (Nat.le_refl _) hv
                    · replace hv := hv.2.2 q
                      refine sw_iconst (dX6_isWord.at 31 rfl) ?_
                      exact sw_zret (dX6_isWord.at 32 rfl) rfl (by decide) (Nat.le_refl _) (Nat.le_refl _) hv
                · replace hv := hv.2.2 q
                  refine sw_iconst (dX6_isWord.at 31 rfl) ?_
                  exact sw_zret (dX6_isWord.at 32 rfl) rfl (by decide) (Nat.le_refl _) (Nat.le_refl _) hv
            · replace hv := hv.2.2 q
              refine sw_iconst (dX6_isWord.at 31 rfl) ?_
              exact sw_zret (dX6_isWord.at 32 rfl) rfl (by decide) (Nat.le_refl _) (Nat.le_refl _) hv
        · replace hv := hv.2.2 q
          refine sw_iconst (dX6_isWord.at 31 rfl) ?_
          exact sw_zret (dX6_isWord.at 32 rfl) rfl (by decide) (Nat.le_refl _) (Nat.le_refl _) hv
    · replace hv := hv.2.2 q
      refine sw_iconst (dX6_isWord.at 12 rfl) ?_
      exact sw_zret (dX6_isWord.at 13 rfl) rfl (by decide) (Nat.le_refl _) (Nat.le_refl _) hv

set_option maxHeartbeats 4000000 in
theorem c_X6_isWord_2 {G : GG} {j nw nx gn : Nat} {g : Nat → Sh} {c : Nat → Nat → Int} {post : Option AV → AM → Prop} {nb : Nat → Nat} {n : Nat} {tk : Nat} {tf : Nat} {tt : Nat} {rr : Nat} {ll : Nat} {ff : Nat} {pl : Int} {bd : Nat → Nat} (hS : c 1 1 = ((n : Nat) : Int)) (hn : n ≤ 300) (hB : ∀ i, nb i < 256) (hT : ∀ i, i < 300 → c 2 i = sb (nb i)) (p1 : tf ≤ tt) (p2 : tt ≤ n) (p3 : tk < 5) (K : post (some (vi (bz (wdG nb tk tf tt)))) (S nw nx g, 78 + gn, (pm c tk tf tt rr ll ff pl bd))) : SM G (j + 5) mX6_isWord [vr (1), vf 2] (S nw nx g, 78 + gn, (pm c tk tf tt rr ll ff pl bd)) 0 0 post := by
  refine sm_of wX6_isWord rfl (Nat.le_of_ble_eq_true rfl) ?_
  have s0 := sb_eq (hB (tf + 0)) 103 (by decide)
  have s1 := sb_eq (hB (tf + 1)) 114 (by decide)
  have s2 := sb_eq (hB (tf + 2)) 111 (by decide)
  have s3 := sb_eq (hB (tf + 3)) 117 (by decide)
  have s4 := sb_eq (hB (tf + 4)) 112 (by decide)
  have r := fun i => sb_rng (hB i)
  have K1 : ∀ v : Int, v = bz (wdG nb tk tf tt) → post (some (vi v)) (S nw nx g, 78 + gn, (pm c tk tf tt rr ll ff pl bd)) := fun v h => h ▸ K
  refine g_X6_isWord_2 hS hn hB hT ?_
  refine ⟨?_, ⟨fun q => ?_, fun q => ⟨?_, ⟨?_, ⟨fun q => ⟨?_, ⟨?_, ⟨fun q => ⟨?_, ⟨?_, ⟨fun q => ⟨?_, ⟨?_, ⟨fun q => ⟨?_, ⟨?_, ⟨fun q => ⟨?_, ⟨?_, ⟨fun q => ?_, fun q => ?_⟩⟩⟩, fun q => ?_⟩⟩⟩, fun q => ?_⟩⟩⟩, fun q => ?_⟩⟩⟩, fun q => ?_⟩⟩⟩, fun q => ?_⟩⟩⟩⟩⟩
  all_goals first | omega | (have := r (tf + 0); omega) | (have := r (tf + 1); omega) | (have := r (tf + 2); omega) | (have := r (tf + 3); omega) | (have := r (tf + 4); omega) | (refine K1 _ ?_; simp only [Nat.add_zero] at *; unfold wdG bz; split <;> rename_i hh <;> simp only [decide_eq_true_eq] at hh <;> first | rfl | (exfalso; omega))

set_option maxHeartbeats 2000000 in
set_option maxRecDepth 20000 in
theorem g_X6_isWord_3 {G : GG} {j nw nx gn : Nat} {g : Nat → Sh} {c : Nat → Nat → Int} {post : Option AV → AM → Prop} {nb : Nat → Nat} {n : Nat} {tk : Nat} {tf : Nat} {tt : Nat} {rr : Nat} {ll : Nat} {ff : Nat} {pl : Int} {bd : Nat → Nat} (hS : c 1 1 = ((n : Nat) : Int)) (hn : n ≤ 300) (hB : ∀ i, nb i < 256) (hT : ∀ i, i < 300 → c 2 i = sb (nb i))  (hv : (tk < 2147483648) ∧ (((tk ≠ 1) → post (some (vi (0))) (S nw nx g, 78 + gn, (pm c tk tf tt rr ll ff pl bd))) ∧ ((tk = 1) → (tf ≤ tt) ∧ ((tt - tf < 2147483648) ∧ (((tt - tf = 4) → (tf + 0 < 300) ∧ ((-2147483648 ≤ sb (nb (tf + 0)) ∧ sb (nb (tf + 0)) < 2147483648) ∧ (((sb (nb (tf + 0)) = 98) → (tf + 1 < 300) ∧ ((-2147483648 ≤ sb (nb (tf + 1)) ∧ sb (nb (tf + 1)) < 2147483648) ∧ (((sb (nb (tf + 1)) = 111) → (tf + 2 < 300) ∧ ((-2147483648 ≤ sb (nb (tf + 2)) ∧ sb (nb (tf + 2)) < 2147483648) ∧ (((sb (nb (tf + 2)) = 110) → (tf + 3 < 300) ∧ ((-2147483648 ≤ sb (nb (tf + 3)) ∧ sb (nb (tf + 3)) < 2147483648) ∧ (((sb (nb (tf + 3)) = 100) → post (some (vi (1))) (S nw nx g, 78 + gn, (pm c tk tf tt rr ll ff pl bd))) ∧ ((¬ (sb (nb (tf + 3)) = 100)) → post (some (vi (0))) (S nw nx g, 78 + gn, (pm c tk tf tt rr ll ff pl bd)))))) ∧ ((¬ (sb (nb (tf + 2)) = 110)) → post (some (vi (0))) (S nw nx g, 78 + gn, (pm c tk tf tt rr ll ff pl bd)))))) ∧ ((¬ (sb (nb (tf + 1)) = 111)) → post (some (vi (0))) (S nw nx g, 78 + gn, (pm c tk tf tt rr ll ff pl bd)))))) ∧ ((¬ (sb (nb (tf + 0)) = 98)) → post (some (vi (0))) (S nw nx g, 78 + gn, (pm c tk tf tt rr ll ff pl bd)))))) ∧ ((¬ (tt - tf = 4)) → post (some (vi (0))) (S nw nx g, 78 + gn, (pm c tk tf tt rr ll ff pl bd)))))))) :
    SW G (j + 4) mX6_isWord 0 [some (vr (1)), some (vf 3), none] [] (S nw nx g, 78 + gn, (pm c tk tf tt rr ll ff pl bd)) B0 post := by
  refine sw_aload_n (dX6_isWord.at 0 rfl) rfl rfl ?_
  refine sw_getIE (w := ((tk : Nat) : Int)) (dX6_isWord.at 1 rfl) fp_X6_32 (S_lt 1 (by decide)) (S_1 nw nx g) rfl rfl ?_
  refine sw_iconst (dX6_isWord.at 2 rfl) ?_
  refine sw_icmpN_ne tk 1 (tgt := 24) (dX6_isWord.at 3 rfl) (by decide) hv.1 (by decide) (fun q => ?_) (fun q => ?_)
  · replace hv := hv.2.1 q
    refine sw_iconst (dX6_isWord.at 12 rfl) ?_
    exact sw_zret (dX6_isWord.at 13 rfl) rfl (by decide) (Nat.le_refl _) (Nat.le_refl _) hv
  · replace hv := hv.2.2 q
    refine sw_aload_n (dX6_isWord.at 4 rfl) rfl rfl ?_
    refine sw_getIE (w := ((tt : Nat) : Int)) (dX6_isWord.at 5 rfl) fp_X6_19 (S_lt 1 (by decide)) (S_1 nw nx g) rfl rfl ?_
    refine sw_aload_n (dX6_isWord.at 6 rfl) rfl rfl ?_
    refine sw_getIE (w := ((tf : Nat) : Int)) (dX6_isWord.at 7 rfl) fp_X6_25 (S_lt 1 (by decide)) (S_1 nw nx g) rfl rfl ?_
    refine sw_isub (dX6_isWord.at 8 rfl) ?_
    refine sw_topI (y := ((tt - tf : Nat) : Int)) (congrArg _ (Int.ofNat_sub hv.1).symm) ?_
    replace hv := hv.2
    refine sw_aload_nf (dX6_isWord.at 9 rfl) rfl rfl ?_
    refine sw_callF (B' := B0) (i := 1) (As := []) (by decide) (dX6_isWord.at 10 rfl) lk_X6_35 rfl rfl (Nat.le_of_ble_eq_true rfl) rfl (Nat.le_refl _) (Nat.le_refl _) ?_
    refine c_J0_length_3 (j := j + 2)  ?_
    refine sw_icmpN_eq (tt - tf) 4 (tgt := 26) (dX6_isWord.at 11 rfl) (by decide) hv.1 (by decide) (fun q => ?_) (fun q => ?_)
    · replace hv := hv.2.1 q
      refine sw_iconst (dX6_isWord.at 14 rfl) ?_
      refine sw_istore_n (lo' := [some (vr (1)), some (vf 3), some (vi (0))]) (dX6_isWord.at 15 rfl) rfl (by decide) rfl ?_
      refine sw_iload_n (dX6_isWord.at 16 rfl) rfl rfl ?_
      refine sw_aload_nf (dX6_isWord.at 17 rfl) rfl rfl ?_
      refine sw_callF (B' := B0) (i := 1) (As := []) (by decide) (dX6_isWord.at 18 rfl) lk_X6_35 rfl rfl (Nat.le_of_ble_eq_true rfl) rfl (Nat.le_refl _) (Nat.le_refl _) ?_
      refine c_J0_length_3 (j := j + 2)  ?_
      refine sw_icmp_ge (tgt := 63) (dX6_isWord.at 19 rfl) (by decide) (by decide) (by decide) (fun q => ?_) (fun q => ?_)
      · exact absurd q (by decide)
      · clear q
        refine sw_aload_n (dX6_isWord.at 20 rfl) rfl rfl ?_
        refine sw_getR (dX6_isWord.at 21 rfl) fp_X6_9 (S_lt 1 (by decide)) (S_1 nw nx g) rfl rfl ?_
        refine sw_aload_n (dX6_isWord.at 22 rfl) rfl rfl ?_
        refine sw_getIE (w := ((tf : Nat) : Int)) (dX6_isWord.at 23 rfl) fp_X6_25 (S_lt 1 (by decide)) (S_1 nw nx g) rfl rfl ?_
        refine sw_iload_n (dX6_isWord.at 24 rfl) rfl rfl ?_
        refine sw_iadd (dX6_isWord.at 25 rfl) ?_
        refine sw_topI (y := ((tf + 0 : Nat) : Int)) (by first | rfl | (congr 1)) ?_
        refine sw_baldN (tf + 0) (w := sb (nb (tf + 0))) (dX6_isWord.at 26 rfl) (S_lt 2 (by decide)) (S_2 nw nx g) (by decide) hv.1 (hT _ hv.1) ?_
        replace hv := hv.2
        refine sw_aload_nf (dX6_isWord.at 27 rfl) rfl rfl ?_
        refine sw_iload_n (dX6_isWord.at 28 rfl) rfl rfl ?_
        refine sw_callF (B' := B0) (i := 1) (As := [vi (0)]) (by decide) (dX6_isWord.at 29 rfl) lk_X6_41 rfl rfl (Nat.le_of_ble_eq_true rfl) rfl (Nat.le_refl _) (Nat.le_refl _) ?_
        refine c_J0_charAt_3_0 (j := j + 0)  ?_
        refine sw_icmp_eq (tgt := 57) (dX6_isWord.at 30 rfl) (by decide) hv.1 (by decide) (fun q => ?_) (fun q => ?_)
        · replace hv := hv.2.1 q
          refine sw_iinc (lo' := [some (vr (1)), some (vf 3), some (vi (1))]) (dX6_isWord.at 33 rfl) rfl (by decide) rfl ?_
          refine sw_goto (tgt := 28) (dX6_isWord.at 34 rfl) (by decide) ?_
          refine sw_iload_n (dX6_isWord.at 16 rfl) rfl rfl ?_
          refine sw_aload_nf (dX6_isWord.at 17 rfl) rfl rfl ?_
          refine sw_callF (B' := B0) (i := 1) (As := []) (by decide) (dX6_isWord.at 18 rfl) lk_X6_35 rfl rfl (Nat.le_of_ble_eq_true rfl) rfl (Nat.le_refl _) (Nat.le_refl _) ?_
          refine c_J0_length_3 (j := j + 2)  ?_
          refine sw_icmp_ge (tgt := 63) (dX6_isWord.at 19 rfl) (by decide) (by decide) (by decide) (fun q => ?_) (fun q => ?_)
          · exact absurd q (by decide)
          · clear q
            refine sw_aload_n (dX6_isWord.at 20 rfl) rfl rfl ?_
            refine sw_getR (dX6_isWord.at 21 rfl) fp_X6_9 (S_lt 1 (by decide)) (S_1 nw nx g) rfl rfl ?_
            refine sw_aload_n (dX6_isWord.at 22 rfl) rfl rfl ?_
            refine sw_getIE (w := ((tf : Nat) : Int)) (dX6_isWord.at 23 rfl) fp_X6_25 (S_lt 1 (by decide)) (S_1 nw nx g) rfl rfl ?_
            refine sw_iload_n (dX6_isWord.at 24 rfl) rfl rfl ?_
            refine sw_iadd (dX6_isWord.at 25 rfl) ?_
            refine sw_topI (y := ((tf + 1 : Nat) : Int)) (by first | rfl | (congr 1)) ?_
            refine sw_baldN (tf + 1) (w := sb (nb (tf + 1))) (dX6_isWord.at 26 rfl) (S_lt 2 (by decide)) (S_2 nw nx g) (by decide) hv.1 (hT _ hv.1) ?_
            replace hv := hv.2
            refine sw_aload_nf (dX6_isWord.at 27 rfl) rfl rfl ?_
            refine sw_iload_n (dX6_isWord.at 28 rfl) rfl rfl ?_
            refine sw_callF (B' := B0) (i := 1) (As := [vi (1)]) (by decide) (dX6_isWord.at 29 rfl) lk_X6_41 rfl rfl (Nat.le_of_ble_eq_true rfl) rfl (Nat.le_refl _) (Nat.le_refl _) ?_
            refine c_J0_charAt_3_1 (j := j + 0)  ?_
            refine sw_icmp_eq (tgt := 57) (dX6_isWord.at 30 rfl) (by decide) hv.1 (by decide) (fun q => ?_) (fun q => ?_)
            · replace hv := hv.2.1 q
              refine sw_iinc (lo' := [some (vr (1)), some (vf 3), some (vi (2))]) (dX6_isWord.at 33 rfl) rfl (by decide) rfl ?_
              refine sw_goto (tgt := 28) (dX6_isWord.at 34 rfl) (by decide) ?_
              refine sw_iload_n (dX6_isWord.at 16 rfl) rfl rfl ?_
              refine sw_aload_nf (dX6_isWord.at 17 rfl) rfl rfl ?_
              refine sw_callF (B' := B0) (i := 1) (As := []) (by decide) (dX6_isWord.at 18 rfl) lk_X6_35 rfl rfl (Nat.le_of_ble_eq_true rfl) rfl (Nat.le_refl _) (Nat.le_refl _) ?_
              refine c_J0_length_3 (j := j + 2)  ?_
              refine sw_icmp_ge (tgt := 63) (dX6_isWord.at 19 rfl) (by decide) (by decide) (by decide) (fun q => ?_) (fun q => ?_)
              · exact absurd q (by decide)
              · clear q
                refine sw_aload_n (dX6_isWord.at 20 rfl) rfl rfl ?_
                refine sw_getR (dX6_isWord.at 21 rfl) fp_X6_9 (S_lt 1 (by decide)) (S_1 nw nx g) rfl rfl ?_
                refine sw_aload_n (dX6_isWord.at 22 rfl) rfl rfl ?_
                refine sw_getIE (w := ((tf : Nat) : Int)) (dX6_isWord.at 23 rfl) fp_X6_25 (S_lt 1 (by decide)) (S_1 nw nx g) rfl rfl ?_
                refine sw_iload_n (dX6_isWord.at 24 rfl) rfl rfl ?_
                refine sw_iadd (dX6_isWord.at 25 rfl) ?_
                refine sw_topI (y := ((tf + 2 : Nat) : Int)) (by first | rfl | (congr 1)) ?_
                refine sw_baldN (tf + 2) (w := sb (nb (tf + 2))) (dX6_isWord.at 26 rfl) (S_lt 2 (by decide)) (S_2 nw nx g) (by decide) hv.1 (hT _ hv.1) ?_
                replace hv := hv.2
                refine sw_aload_nf (dX6_isWord.at 27 rfl) rfl rfl ?_
                refine sw_iload_n (dX6_isWord.at 28 rfl) rfl rfl ?_
                refine sw_callF (B' := B0) (i := 1) (As := [vi (2)]) (by decide) (dX6_isWord.at 29 rfl) lk_X6_41 rfl rfl (Nat.le_of_ble_eq_true rfl) rfl (Nat.le_refl _) (Nat.le_refl _) ?_
                refine c_J0_charAt_3_2 (j := j + 0)  ?_
                refine sw_icmp_eq (tgt := 57) (dX6_isWord.at 30 rfl) (by decide) hv.1 (by decide) (fun q => ?_) (fun q => ?_)
                · replace hv := hv.2.1 q
                  refine sw_iinc (lo' := [some (vr (1)), some (vf 3), some (vi (3))]) (dX6_isWord.at 33 rfl) rfl (by decide) rfl ?_
                  refine sw_goto (tgt := 28) (dX6_isWord.at 34 rfl) (by decide) ?_
                  refine sw_iload_n (dX6_isWord.at 16 rfl) rfl rfl ?_
                  refine sw_aload_nf (dX6_isWord.at 17 rfl) rfl rfl ?_
                  refine sw_callF (B' := B0) (i := 1) (As := []) (by decide) (dX6_isWord.at 18 rfl) lk_X6_35 rfl rfl (Nat.le_of_ble_eq_true rfl) rfl (Nat.le_refl _) (Nat.le_refl _) ?_
                  refine c_J0_length_3 (j := j + 2)  ?_
                  refine sw_icmp_ge (tgt := 63) (dX6_isWord.at 19 rfl) (by decide) (by decide) (by decide) (fun q => ?_) (fun q => ?_)
                  · exact absurd q (by decide)
                  · clear q
                    refine sw_aload_n (dX6_isWord.at 20 rfl) rfl rfl ?_
                    refine sw_getR (dX6_isWord.at 21 rfl) fp_X6_9 (S_lt 1 (by decide)) (S_1 nw nx g) rfl rfl ?_
                    refine sw_aload_n (dX6_isWord.at 22 rfl) rfl rfl ?_
                    refine sw_getIE (w := ((tf : Nat) : Int)) (dX6_isWord.at 23 rfl) fp_X6_25 (S_lt 1 (by decide)) (S_1 nw nx g) rfl rfl ?_
                    refine sw_iload_n (dX6_isWord.at 24 rfl) rfl rfl ?_
                    refine sw_iadd (dX6_isWord.at 25 rfl) ?_
                    refine sw_topI (y := ((tf + 3 : Nat) : Int)) (by first | rfl | (congr 1)) ?_
                    refine sw_baldN (tf + 3) (w := sb (nb (tf + 3))) (dX6_isWord.at 26 rfl) (S_lt 2 (by decide)) (S_2 nw nx g) (by decide) hv.1 (hT _ hv.1) ?_
                    replace hv := hv.2
                    refine sw_aload_nf (dX6_isWord.at 27 rfl) rfl rfl ?_
                    refine sw_iload_n (dX6_isWord.at 28 rfl) rfl rfl ?_
                    refine sw_callF (B' := B0) (i := 1) (As := [vi (3)]) (by decide) (dX6_isWord.at 29 rfl) lk_X6_41 rfl rfl (Nat.le_of_ble_eq_true rfl) rfl (Nat.le_refl _) (Nat.le_refl _) ?_
                    refine c_J0_charAt_3_3 (j := j + 0)  ?_
                    refine sw_icmp_eq (tgt := 57) (dX6_isWord.at 30 rfl) (by decide) hv.1 (by decide) (fun q => ?_) (fun q => ?_)
                    · replace hv := hv.2.1 q
                      refine sw_iinc (lo' := [some (vr (1)), some (vf 3), some (vi (4))]) (dX6_isWord.at 33 rfl) rfl (by decide) rfl ?_
                      refine sw_goto (tgt := 28) (dX6_isWord.at 34 rfl) (by decide) ?_
                      refine sw_iload_n (dX6_isWord.at 16 rfl) rfl rfl ?_
                      refine sw_aload_nf (dX6_isWord.at 17 rfl) rfl rfl ?_
                      refine sw_callF (B' := B0) (i := 1) (As := []) (by decide) (dX6_isWord.at 18 rfl) lk_X6_35 rfl rfl (Nat.le_of_ble_eq_true rfl) rfl (Nat.le_refl _) (Nat.le_refl _) ?_
                      refine c_J0_length_3 (j := j + 2)  ?_
                      refine sw_icmp_ge (tgt := 63) (dX6_isWord.at 19 rfl) (by decide) (by decide) (by decide) (fun q => ?_) (fun q => ?_)
                      · clear q
                        refine sw_iconst (dX6_isWord.at 35 rfl) ?_
                        exact sw_zret (dX6_isWord.at 36 rfl) rfl (by decide) (Nat.le_refl _) (Nat.le_refl _) hv
                      · exact absurd q (by decide)
                    · replace hv := hv.2.2 q
                      refine sw_iconst (dX6_isWord.at 31 rfl) ?_
                      exact sw_zret (dX6_isWord.at 32 rfl) rfl (by decide) (Nat.le_refl _) (Nat.le_refl _) hv
                · replace hv := hv.2.2 q
                  refine sw_iconst (dX6_isWord.at 31 rfl) ?_
                  exact sw_zret (dX6_isWord.at 32 rfl) rfl (by decide) (Nat.le_refl _) (Nat.le_refl _) hv
            · replace hv := hv.2.2 q
              refine sw_iconst (dX6_isWord.at 31 rfl) ?_
              exact sw_zret (dX6_isWord.at 32 rfl) rfl (by decide) (Nat.le_refl _) (Nat.le_refl _) hv
        · replace hv := hv.2.2 q
          refine sw_iconst (dX6_isWord.at 31 rfl) ?_
          exact sw_zret (dX6_isWord.at 32 rfl) rfl (by decide) (Nat.le_refl _) (Nat.le_refl _) hv
    · replace hv := hv.2.2 q
      refine sw_iconst (dX6_isWord.at 12 rfl) ?_
      exact sw_zret (dX6_isWord.at 13 rfl) rfl (by decide) (Nat.le_refl _) (Nat.le_refl _) hv

set_option maxHeartbeats 4000000 in
theorem c_X6_isWord_3 {G : GG} {j nw nx gn : Nat} {g : Nat → Sh} {c : Nat → Nat → Int} {post : Option AV → AM → Prop} {nb : Nat → Nat} {n : Nat} {tk : Nat} {tf : Nat} {tt : Nat} {rr : Nat} {ll : Nat} {ff : Nat} {pl : Int} {bd : Nat → Nat} (hS : c 1 1 = ((n : Nat) : Int)) (hn : n ≤ 300) (hB : ∀ i, nb i < 256) (hT : ∀ i, i < 300 → c 2 i = sb (nb i)) (p1 : tf ≤ tt) (p2 : tt ≤ n) (p3 : tk < 5) (K : post (some (vi (bz (wdB nb tk tf tt)))) (S nw nx g, 78 + gn, (pm c tk tf tt rr ll ff pl bd))) : SM G (j + 5) mX6_isWord [vr (1), vf 3] (S nw nx g, 78 + gn, (pm c tk tf tt rr ll ff pl bd)) 0 0 post := by
  refine sm_of wX6_isWord rfl (Nat.le_of_ble_eq_true rfl) ?_
  have s0 := sb_eq (hB (tf + 0)) 98 (by decide)
  have s1 := sb_eq (hB (tf + 1)) 111 (by decide)
  have s2 := sb_eq (hB (tf + 2)) 110 (by decide)
  have s3 := sb_eq (hB (tf + 3)) 100 (by decide)
  have r := fun i => sb_rng (hB i)
  have K1 : ∀ v : Int, v = bz (wdB nb tk tf tt) → post (some (vi v)) (S nw nx g, 78 + gn, (pm c tk tf tt rr ll ff pl bd)) := fun v h => h ▸ K
  refine g_X6_isWord_3 hS hn hB hT ?_
  refine ⟨?_, ⟨fun q => ?_, fun q => ⟨?_, ⟨?_, ⟨fun q => ⟨?_, ⟨?_, ⟨fun q => ⟨?_, ⟨?_, ⟨fun q => ⟨?_, ⟨?_, ⟨fun q => ⟨?_, ⟨?_, ⟨fun q => ?_, fun q => ?_⟩⟩⟩, fun q => ?_⟩⟩⟩, fun q => ?_⟩⟩⟩, fun q => ?_⟩⟩⟩, fun q => ?_⟩⟩⟩⟩⟩
  all_goals first | omega | (have := r (tf + 0); omega) | (have := r (tf + 1); omega) | (have := r (tf + 2); omega) | (have := r (tf + 3); omega) | (have := r (tf + 4); omega) | (refine K1 _ ?_; simp only [Nat.add_zero] at *; unfold wdB bz; split <;> rename_i hh <;> simp only [decide_eq_true_eq] at hh <;> first | rfl | (exfalso; omega))

set_option maxHeartbeats 2000000 in
set_option maxRecDepth 20000 in
theorem g_X6_value_0 {G : GG} {j nw nx gn : Nat} {g : Nat → Sh} {c : Nat → Nat → Int} {post : Option AV → AM → Prop} {nb : Nat → Nat} {n : Nat} {tk : Nat} {tf : Nat} {tt : Nat} {rr : Nat} {ll : Nat} {ff : Nat} {pl : Int} {bd : Nat → Nat} (hS : c 1 1 = ((n : Nat) : Int)) (hn : n ≤ 300) (hB : ∀ i, nb i < 256) (hT : ∀ i, i < 300 → c 2 i = sb (nb i))  (hv : SW G (j + 0) mX6_value 7 [some (vr (1)), some (vi (0)), some (vi (((tf : Nat) : Int)))] [] (S nw nx g, 78 + gn, (pm c tk tf tt rr ll ff pl bd)) B0 post) :
    SW G (j + 0) mX6_value 0 [some (vr (1)), none, none] [] (S nw nx g, 78 + gn, (pm c tk tf tt rr ll ff pl bd)) B0 post := by
  refine sw_iconst (dX6_value.at 0 rfl) ?_
  refine sw_istore_n (lo' := [some (vr (1)), some (vi (0)), none]) (dX6_value.at 1 rfl) rfl (by decide) rfl ?_
  refine sw_aload_n (dX6_value.at 2 rfl) rfl rfl ?_
  refine sw_getIE (w := ((tf : Nat) : Int)) (dX6_value.at 3 rfl) fp_X6_25 (S_lt 1 (by decide)) (S_1 nw nx g) rfl rfl ?_
  refine sw_istore_n (lo' := [some (vr (1)), some (vi (0)), some (vi (((tf : Nat) : Int)))]) (dX6_value.at 4 rfl) rfl (by decide) rfl ?_
  exact hv

set_option maxHeartbeats 2000000 in
set_option maxRecDepth 20000 in
theorem g_X6_value_7 {G : GG} {j nw nx gn : Nat} {g : Nat → Sh} {c : Nat → Nat → Int} {post : Option AV → AM → Prop} {nb : Nat → Nat} {n : Nat} {tk : Nat} {tf : Nat} {tt : Nat} {rr : Nat} {ll : Nat} {ff : Nat} {pl : Int} {bd : Nat → Nat} {v : Nat} {u : Nat} (hS : c 1 1 = ((n : Nat) : Int)) (hn : n ≤ 300) (hB : ∀ i, nb i < 256) (hT : ∀ i, i < 300 → c 2 i = sb (nb i))  (hv : (u < 2147483648) ∧ (tt < 2147483648) ∧ (((tt ≤ u) → post (some (vi (((v : Nat) : Int)))) (S nw nx g, 78 + gn, (pm c tk tf tt rr ll ff pl bd))) ∧ ((¬ (tt ≤ u)) → (v < 2147483648) ∧ (((1000 ≤ v) → SW G (j + 0) mX6_value 7 [some (vr (1)), some (vi (((v : Nat) : Int))), some (vi (((u + 1 : Nat) : Int)))] [] (S nw nx g, 78 + gn, (pm c tk tf tt rr ll ff pl bd)) B0 post) ∧ ((¬ (1000 ≤ v)) → (u < 300) ∧ (nb u < 128) ∧ ((48 ≤ (v * 10) + (nb u)) ∧ (SW G (j + 0) mX6_value 7 [some (vr (1)), some (vi (((((v * 10) + (nb u)) - 48 : Nat) : Int))), some (vi (((u + 1 : Nat) : Int)))] [] (S nw nx g, 78 + gn, (pm c tk tf tt rr ll ff pl bd)) B0 post))))))) :
    SW G (j + 0) mX6_value 7 [some (vr (1)), some (vi (((v : Nat) : Int))), some (vi (((u : Nat) : Int)))] [] (S nw nx g, 78 + gn, (pm c tk tf tt rr ll ff pl bd)) B0 post := by
  refine sw_iload_n (dX6_value.at 5 rfl) rfl rfl ?_
  refine sw_aload_n (dX6_value.at 6 rfl) rfl rfl ?_
  refine sw_getIE (w := ((tt : Nat) : Int)) (dX6_value.at 7 rfl) fp_X6_19 (S_lt 1 (by decide)) (S_1 nw nx g) rfl rfl ?_
  refine sw_icmpN_ge u tt (tgt := 43) (dX6_value.at 8 rfl) (by decide) hv.1 hv.2.1 (fun q => ?_) (fun q => ?_)
  · replace hv := hv.2.2.1 q
    refine sw_iload_n (dX6_value.at 25 rfl) rfl rfl ?_
    exact sw_iret (dX6_value.at 26 rfl) rfl (Nat.le_refl _) (Nat.le_refl _) hv
  · replace hv := hv.2.2.2 q
    refine sw_iload_n (dX6_value.at 9 rfl) rfl rfl ?_
    refine sw_sipush (dX6_value.at 10 rfl) (by decide) ?_
    refine sw_icmpN_ge v 1000 (tgt := 37) (dX6_value.at 11 rfl) (by decide) hv.1 (by decide) (fun q => ?_) (fun q => ?_)
    · replace hv := hv.2.1 q
      refine sw_iinc (lo' := [some (vr (1)), some (vi (((v : Nat) : Int))), some (vi (((u + 1 : Nat) : Int)))]) (dX6_value.at 23 rfl) rfl (by decide) rfl ?_
      refine sw_goto (tgt := 7) (dX6_value.at 24 rfl) (by decide) ?_
      exact hv
    · replace hv := hv.2.2 q
      refine sw_iload_n (dX6_value.at 12 rfl) rfl rfl ?_
      refine sw_bipush (dX6_value.at 13 rfl) (by decide) ?_
      refine sw_imul (dX6_value.at 14 rfl) ?_
      refine sw_topI (y := ((v * 10 : Nat) : Int)) (by first | rfl | (congr 1)) ?_
      refine sw_aload_n (dX6_value.at 15 rfl) rfl rfl ?_
      refine sw_getR (dX6_value.at 16 rfl) fp_X6_9 (S_lt 1 (by decide)) (S_1 nw nx g) rfl rfl ?_
      refine sw_iload_n (dX6_value.at 17 rfl) rfl rfl ?_
      refine sw_baldN u (w := ((nb u : Nat) : Int)) (dX6_value.at 18 rfl) (S_lt 2 (by decide)) (S_2 nw nx g) (by decide) hv.1 ((hT _ hv.1).trans (if_pos hv.2.1)) ?_
      replace hv := hv.2.2
      refine sw_iadd (dX6_value.at 19 rfl) ?_
      refine sw_topI (y := (((v * 10) + (nb u) : Nat) : Int)) (by first | rfl | (congr 1)) ?_
      refine sw_bipush (dX6_value.at 20 rfl) (by decide) ?_
      refine sw_isub (dX6_value.at 21 rfl) ?_
      refine sw_topI (y := ((((v * 10) + (nb u)) - 48 : Nat) : Int)) (congrArg _ (Int.ofNat_sub hv.1).symm) ?_
      replace hv := hv.2
      refine sw_istore_n (lo' := [some (vr (1)), some (vi (((((v * 10) + (nb u)) - 48 : Nat) : Int))), some (vi (((u : Nat) : Int)))]) (dX6_value.at 22 rfl) rfl (by decide) rfl ?_
      refine sw_iinc (lo' := [some (vr (1)), some (vi (((((v * 10) + (nb u)) - 48 : Nat) : Int))), some (vi (((u + 1 : Nat) : Int)))]) (dX6_value.at 23 rfl) rfl (by decide) rfl ?_
      refine sw_goto (tgt := 7) (dX6_value.at 24 rfl) (by decide) ?_
      exact hv

set_option maxHeartbeats 4000000 in
theorem lp_X6_value_7 {G : GG} {j nw nx gn : Nat} {g : Nat → Sh} {c : Nat → Nat → Int} {post : Option AV → AM → Prop} {nb : Nat → Nat} {n : Nat} {tk : Nat} {tf : Nat} {tt : Nat} {rr : Nat} {ll : Nat} {ff : Nat} {pl : Int} {bd : Nat → Nat} (hS : c 1 1 = ((n : Nat) : Int)) (hn : n ≤ 300) (hB : ∀ i, nb i < 256) (hT : ∀ i, i < 300 → c 2 i = sb (nb i)) (p2 : tt ≤ n) (hd : ∀ q, tf ≤ q → q < tt → 48 ≤ nb q ∧ nb q ≤ 57) : ∀ k u v : Nat, u + k = tt → tf ≤ u → v ≤ 9999 → post (some (vi ((vlC nb k u v : Nat) : Int))) (S nw nx g, 78 + gn, (pm c tk tf tt rr ll ff pl bd)) → SW G (j + 0) mX6_value 7 [some (vr (1)), some (vi (((v : Nat) : Int))), some (vi (((u : Nat) : Int)))] [] (S nw nx g, 78 + gn, (pm c tk tf tt rr ll ff pl bd)) B0 post := by
  intro k
  induction k with
  | zero =>
    intro u v hu hf hv K
    refine g_X6_value_7 hS hn hB hT ?_
    refine ⟨?_, ?_, ⟨fun q => ?_, fun q => ⟨?_, ⟨fun q => ?_, fun q => ⟨?_, ?_, ⟨?_, ?_⟩⟩⟩⟩⟩⟩
    all_goals first | omega | exact K | (exfalso; omega)
  | succ k ih =>
    intro u v hu hf hv K
    simp only [vlC] at K
    have h1 := hd u hf (by omega)
    refine g_X6_value_7 hS hn hB hT ?_
    by_cases h : v < 1000
    · rw [if_pos h] at K
      refine ⟨?_, ?_, ⟨fun q => ?_, fun q => ⟨?_, ⟨fun q => ?_, fun q => ⟨?_, ?_, ⟨?_, ?_⟩⟩⟩⟩⟩⟩
      all_goals first | omega | exact ih _ _ (by omega) (by omega) (by omega) K | (exfalso; omega)
    · rw [if_neg h] at K
      refine ⟨?_, ?_, ⟨fun q => ?_, fun q => ⟨?_, ⟨fun q => ?_, fun q => ⟨?_, ?_, ⟨?_, ?_⟩⟩⟩⟩⟩⟩
      all_goals first | omega | exact ih _ _ (by omega) (by omega) (by omega) K | (exfalso; omega)
theorem c_X6_value {G : GG} {j nw nx gn : Nat} {g : Nat → Sh} {c : Nat → Nat → Int} {post : Option AV → AM → Prop} {nb : Nat → Nat} {n : Nat} {tk : Nat} {tf : Nat} {tt : Nat} {rr : Nat} {ll : Nat} {ff : Nat} {pl : Int} {bd : Nat → Nat} (hS : c 1 1 = ((n : Nat) : Int)) (hn : n ≤ 300) (hB : ∀ i, nb i < 256) (hT : ∀ i, i < 300 → c 2 i = sb (nb i)) (p1 : tf ≤ tt) (p2 : tt ≤ n) (hd : ∀ q, tf ≤ q → q < tt → 48 ≤ nb q ∧ nb q ≤ 57) (K : post (some (vi ((vlC nb (tt - tf) tf 0 : Nat) : Int))) (S nw nx g, 78 + gn, (pm c tk tf tt rr ll ff pl bd))) : SM G (j + 1) mX6_value [vr (1)] (S nw nx g, 78 + gn, (pm c tk tf tt rr ll ff pl bd)) 0 0 post := by
  refine sm_of wX6_value rfl (Nat.le_of_ble_eq_true rfl) ?_
  refine g_X6_value_0 hS hn hB hT ?_
  exact lp_X6_value_7 hS hn hB hT p2 hd (tt - tf) tf 0 (by omega) (Nat.le_refl _) (by omega) K

