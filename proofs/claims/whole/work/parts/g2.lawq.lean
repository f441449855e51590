section SAME
variable {G : GG} {j : Nat} {me : Mth} {pc : Nat} {lo : List (Option AV)} {st : List AV} {M : AM} {B : BB} {post : Option AV → AM → Prop}
theorem sw_icmp_same {x off : Int} {tgt : Nat} (hd : decode me.2.1 pc = .ok (.if_icmp .eq off, 3)) (ht : (pc : Int) + off = (tgt : Int)) (K : SW G j me tgt lo st M B post) : SW G j me pc lo (vi x :: vi x :: st) M B post :=
  fun p e R s m args below meth c b fa fv cy D H locs ls Q C hH hL hE => lv_icmp_eq C.1.1 C.1.2.1 hd ht (fun _ => K p e R s m args below meth c b fa fv cy D H locs ls Q C hH hL hE) (fun h => absurd rfl h)
theorem sw_lcmp_same {x off : Int} {tgt : Nat} (hd : decode me.2.1 pc = .ok (.lcmp, 1)) (hd2 : decode me.2.1 (pc + 1) = .ok (.ifCond .eq off, 3)) (ht : ((pc + 1 : Nat) : Int) + off = (tgt : Int)) (K : SW G j me tgt lo st M B post) : SW G j me pc lo (vl x :: vl x :: st) M B post := by
  have e1 : Int64.ofInt (Int64.ofInt x).toInt = Int64.ofInt x := by
    generalize Int64.ofInt x = w
    simp
  have h := sw_lcmp_eq (x := (Int64.ofInt x).toInt) (y := (Int64.ofInt x).toInt) hd hd2 ht ⟨Int64.le_toInt _, Int64.toInt_lt _⟩ ⟨Int64.le_toInt _, Int64.toInt_lt _⟩ (fun _ => K) (fun h => absurd rfl h)
  intro p e R s m args below meth c b fa fv cy D H locs ls Q C hH hL hE
  have h2 := h p e R s m args below meth c b fa fv cy D H locs ls Q C hH hL hE
  simpa only [List.map_cons, cv, e1] using h2
end SAME
set_option maxHeartbeats 2000000 in
set_option maxRecDepth 20000 in
theorem g_law_length {G : GG} {j nw nx gn : Nat} {g : Nat → Sh} {c : Nat → Nat → Int} {post : Option AV → AM → Prop} {BL : BB} {P : GD} {ii : Nat} (hG : G.2.1 < 2147483648) (hB1 : BL.1 ≤ BL.2.2.1) (hB2 : BL.2.1 ≤ BL.2.2.2) (hnw : nw = 21 ∨ nw = 35) (hE : EL c nw P) (hM : ML c P) (hV : GV P)  (hv : (0 ≤ ((ii + 1 : Nat) : Int)) ∧ (((ii + 1 : Nat) : Int) < (G.2.1 : Int)) ∧ ((0 ≤ ((ii + 1 : Nat) : Int)) ∧ (((ii + 1 : Nat) : Int) < (G.2.1 : Int)) ∧ ((∀ (cq_1 : Nat → Nat → Int), (SC c cq_1) → SW G (j + 40) mL_law 2308 [some (vf 0), some (vr (0)), some (vr (49)), some (vi (((ii : Nat) : Int)))] [] (S nw nx g, 78 + gn, cq_1) BL post)))) :
    SW G (j + 40) mL_law 494 [some (vf 0), some (vr (0)), some (vr (49)), some (vi (((ii : Nat) : Int)))] [] (S nw nx g, 78 + gn, c) BL post := by
  refine sw_aload_n (dL_law_3.at 14 rfl) rfl rfl ?_
  refine sw_aload_nf (dL_law_3.at 15 rfl) rfl rfl ?_
  refine sw_iload_n (dL_law_3.at 16 rfl) rfl rfl ?_
  refine sw_iconst (dL_law_3.at 17 rfl) ?_
  refine sw_iadd (dL_law_3.at 18 rfl) ?_
  refine sw_topI (y := ((ii + 1 : Nat) : Int)) (by first | rfl | (congr 1)) ?_
  refine sw_sld (dL_law_3.at 19 rfl) hG hv.1 hv.2.1 ?_
  replace hv := hv.2.2
  refine sw_callV (B' := BL) (As := [vi ((G.2.2 (((ii + 1 : Nat) : Int).toNat)).toInt)]) (mc := 0) (ms := 0) (dL_law_3.at 20 rfl) lk_L_41 (S_lt 0 (by decide)) (S_0 nw nx g) rfl rfl (Nat.le_of_ble_eq_true rfl) rfl hB1 hB2 ?_
  refine c_X8_length (x := ((G.2.2 (((ii + 1 : Nat) : Int).toNat)).toInt)) (j := j + 38) hnw hE hV (⟨Int32.le_toInt _, Int32.toInt_lt _⟩) ?_
  refine sw_aload_n (dL_law_3.at 21 rfl) rfl rfl ?_
  refine sw_aload_nf (dL_law_3.at 22 rfl) rfl rfl ?_
  refine sw_iload_n (dL_law_3.at 23 rfl) rfl rfl ?_
  refine sw_iconst (dL_law_3.at 24 rfl) ?_
  refine sw_iadd (dL_law_3.at 25 rfl) ?_
  refine sw_topI (y := ((ii + 1 : Nat) : Int)) (by first | rfl | (congr 1)) ?_
  refine sw_sld (dL_law_3.at 26 rfl) hG hv.1 hv.2.1 ?_
  replace hv := hv.2.2
  refine sw_callV (B' := BL) (As := [vi ((G.2.2 (((ii + 1 : Nat) : Int).toNat)).toInt)]) (mc := 0) (ms := 0) (dL_law_3.at 27 rfl) lk_L_44 (S_lt 49 (by decide)) (S_49 nw nx g) rfl rfl (Nat.le_of_ble_eq_true rfl) rfl hB1 hB2 ?_
  refine c_X9_length (x := ((G.2.2 (((ii + 1 : Nat) : Int).toNat)).toInt)) (j := j + 37) hM hV (⟨Int32.le_toInt _, Int32.toInt_lt _⟩) (fun cq_1 q2 => ?_) 
  · replace hv := hv cq_1 q2
    refine sw_icmp_same (tgt := 2308) (dL_law_3.at 28 rfl) (by decide) ?_
    exact hv

