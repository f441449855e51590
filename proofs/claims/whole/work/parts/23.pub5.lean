def q_image (P : GD) (x : Int) : Int := if ¬ gN P = 0 ∧ 0 ≤ x ∧ x < 3 then 0 else -2
def m_image (P : GD) (A : Nat) (x : Int) (c : Nat → Nat → Int) : Nat → Nat → Int := if ¬ gN P = 0 ∧ 0 ≤ x ∧ x < 3 then m_keep c A x.toNat else c
def q_undo (P : GD) (A : Nat) : Int := if gN P = 0 then -2 else if A = 0 then -5 else ((A - 1 : Nat) : Int)
def m_undo (P : GD) (A : Nat) (c : Nat → Nat → Int) : Nat → Nat → Int := if ¬ gN P = 0 ∧ ¬ A = 0 then up2 (up2 c 15 5 ((A - 1 : Nat) : Int)) 15 4 (c 16 (A - 1)) else c
def q_anew (P : GD) (A : Nat) : Int := if gN P = 0 then -2 else (A : Int)
def m_anew (P : GD) (c : Nat → Nat → Int) : Nat → Nat → Int := if gN P = 0 then c else up2 (up2 c 15 4 0) 15 5 0
/-- back: I: what image x has (-1: nothing) -/
def q_back (P : GD) (x I : Int) : Int := if ¬ gN P = 0 ∧ 0 ≤ x ∧ x < 3 then (if I = -1 then -6 else 0) else -2
def m_back (P : GD) (x I : Int) (c : Nat → Nat → Int) : Nat → Nat → Int := if (¬ gN P = 0 ∧ 0 ≤ x ∧ x < 3) ∧ ¬ I = -1 then m_bring c I.toNat x.toNat else c
set_option maxHeartbeats 2000000 in
set_option maxRecDepth 20000 in
theorem g_X8_image_0n {G : GG} {j nw nx gn : Nat} {g : Nat → Sh} {c : Nat → Nat → Int} {post : Option AV → AM → Prop} {x : Nat} {P : GD} {T : Nat} {A : Nat} (hnw : nw = 21 ∨ nw = 35) (hE : EL c nw P) (hV : GV P) (hT : c 15 4 = ((T : Nat) : Int)) (hA : c 15 5 = ((A : Nat) : Int))  (hv : (gN P < 2147483648) ∧ (((gN P = 0) → post (some (vi ((-2)))) (S nw nx g, 78 + gn, c)) ∧ ((¬ (gN P = 0)) → (x < 2147483648) ∧ (((((x : Nat) : Int) < 0) → post (some (vi ((-2)))) (S nw nx g, 78 + gn, c)) ∧ ((¬ (((x : Nat) : Int) < 0)) → (x < 2147483648) ∧ (((x < 3) → (x < 3) ∧ (A ≤ 30) ∧ (post (some (vi (0))) (S nw nx g, 78 + gn, (m_keep c A x)))) ∧ ((¬ (x < 3)) → post (some (vi ((-2)))) (S nw nx g, 78 + gn, c)))))))) :
    SW G (j + 1) mX8_image 0 [some (vr (0)), some (vi (((x : Nat) : Int)))] [] (S nw nx g, 78 + gn, c) B0 post := by
  refine sw_aload_n (dX8_image.at 0 rfl) rfl rfl ?_
  refine sw_getR (dX8_image.at 1 rfl) fp_X8_65 (S_lt 0 (by decide)) (S_0 nw nx g) rfl rfl ?_
  refine sw_getIE (w := ((gN P : Nat) : Int)) (dX8_image.at 2 rfl) fp_X8_103 (S_e_lt hnw) (S_e hnw) rfl (EL_N hE) ?_
  refine sw_ifN_eq (gN P) (tgt := 19) (dX8_image.at 3 rfl) (by decide) hv.1 (fun q => ?_) (fun q => ?_)
  · replace hv := hv.2.1 q
    refine sw_bipush (dX8_image.at 9 rfl) (by decide) ?_
    exact sw_iret (dX8_image.at 10 rfl) rfl (Nat.le_refl _) (Nat.le_refl _) hv
  · replace hv := hv.2.2 q
    refine sw_iload_n (dX8_image.at 4 rfl) rfl rfl ?_
    refine sw_if_lt (tgt := 19) (dX8_image.at 5 rfl) (by decide) (nrng hv.1) (fun q => ?_) (fun q => ?_)
    · replace hv := hv.2.1 q
      refine sw_bipush (dX8_image.at 9 rfl) (by decide) ?_
      exact sw_iret (dX8_image.at 10 rfl) rfl (Nat.le_refl _) (Nat.le_refl _) hv
    · replace hv := hv.2.2 q
      refine sw_iload_n (dX8_image.at 6 rfl) rfl rfl ?_
      refine sw_iconst (dX8_image.at 7 rfl) ?_
      refine sw_icmpN_lt x 3 (tgt := 22) (dX8_image.at 8 rfl) (by decide) hv.1 (by decide) (fun q => ?_) (fun q => ?_)
      · replace hv := hv.2.1 q
        refine sw_aload_n (dX8_image.at 11 rfl) rfl rfl ?_
        refine sw_getR (dX8_image.at 12 rfl) fp_X8_54 (S_lt 0 (by decide)) (S_0 nw nx g) rfl rfl ?_
        refine sw_iload_n (dX8_image.at 13 rfl) rfl rfl ?_
        refine sw_callV (B' := B0) (As := [vi (((x : Nat) : Int))]) (mc := 0) (ms := 0) (dX8_image.at 14 rfl) lk_X8_320 (S_lt 15 (by decide)) (S_15 nw nx g) rfl rfl (Nat.le_of_ble_eq_true rfl) rfl (Nat.le_refl _) (Nat.le_refl _) ?_
        refine c_X3_keep (q0 := x) (j := j + 0) hA hv.1 hv.2.1 ?_
        replace hv := hv.2.2
        refine sw_iconst (dX8_image.at 15 rfl) ?_
        exact sw_iret (dX8_image.at 16 rfl) rfl (Nat.le_refl _) (Nat.le_refl _) hv
      · replace hv := hv.2.2 q
        refine sw_bipush (dX8_image.at 9 rfl) (by decide) ?_
        exact sw_iret (dX8_image.at 10 rfl) rfl (Nat.le_refl _) (Nat.le_refl _) hv

set_option maxHeartbeats 2000000 in
set_option maxRecDepth 20000 in
theorem g_X8_image_0 {G : GG} {j nw nx gn : Nat} {g : Nat → Sh} {c : Nat → Nat → Int} {post : Option AV → AM → Prop} {x : Int} {P : GD} {T : Nat} {A : Nat} (hnw : nw = 21 ∨ nw = 35) (hE : EL c nw P) (hV : GV P) (hT : c 15 4 = ((T : Nat) : Int)) (hA : c 15 5 = ((A : Nat) : Int))  (hv : (gN P < 2147483648) ∧ (((gN P = 0) → post (some (vi ((-2)))) (S nw nx g, 78 + gn, c)) ∧ ((¬ (gN P = 0)) → (-2147483648 ≤ x ∧ x < 2147483648) ∧ (((x < 0) → post (some (vi ((-2)))) (S nw nx g, 78 + gn, c)) ∧ ((¬ (x < 0)) → (-2147483648 ≤ x ∧ x < 2147483648) ∧ (((x < 3) → SW G (j + 1) mX8_image 27 [some (vr (0)), some (vi (x))] [vi (x), vr (15)] (S nw nx g, 78 + gn, c) B0 post) ∧ ((¬ (x < 3)) → post (some (vi ((-2)))) (S nw nx g, 78 + gn, c)))))))) :
    SW G (j + 1) mX8_image 0 [some (vr (0)), some (vi (x))] [] (S nw nx g, 78 + gn, c) B0 post := by
  refine sw_aload_n (dX8_image.at 0 rfl) rfl rfl ?_
  refine sw_getR (dX8_image.at 1 rfl) fp_X8_65 (S_lt 0 (by decide)) (S_0 nw nx g) rfl rfl ?_
  refine sw_getIE (w := ((gN P : Nat) : Int)) (dX8_image.at 2 rfl) fp_X8_103 (S_e_lt hnw) (S_e hnw) rfl (EL_N hE) ?_
  refine sw_ifN_eq (gN P) (tgt := 19) (dX8_image.at 3 rfl) (by decide) hv.1 (fun q => ?_) (fun q => ?_)
  · replace hv := hv.2.1 q
    refine sw_bipush (dX8_image.at 9 rfl) (by decide) ?_
    exact sw_iret (dX8_image.at 10 rfl) rfl (Nat.le_refl _) (Nat.le_refl _) hv
  · replace hv := hv.2.2 q
    refine sw_iload_n (dX8_image.at 4 rfl) rfl rfl ?_
    refine sw_if_lt (tgt := 19) (dX8_image.at 5 rfl) (by decide) hv.1 (fun q => ?_) (fun q => ?_)
    · replace hv := hv.2.1 q
      refine sw_bipush (dX8_image.at 9 rfl) (by decide) ?_
      exact sw_iret (dX8_image.at 10 rfl) rfl (Nat.le_refl _) (Nat.le_refl _) hv
    · replace hv := hv.2.2 q
      refine sw_iload_n (dX8_image.at 6 rfl) rfl rfl ?_
      refine sw_iconst (dX8_image.at 7 rfl) ?_
      refine sw_icmp_lt (tgt := 22) (dX8_image.at 8 rfl) (by decide) hv.1 (by decide) (fun q => ?_) (fun q => ?_)
      · replace hv := hv.2.1 q
        refine sw_aload_n (dX8_image.at 11 rfl) rfl rfl ?_
        refine sw_getR (dX8_image.at 12 rfl) fp_X8_54 (S_lt 0 (by decide)) (S_0 nw nx g) rfl rfl ?_
        refine sw_iload_n (dX8_image.at 13 rfl) rfl rfl ?_
        exact hv
      · replace hv := hv.2.2 q
        refine sw_bipush (dX8_image.at 9 rfl) (by decide) ?_
        exact sw_iret (dX8_image.at 10 rfl) rfl (Nat.le_refl _) (Nat.le_refl _) hv

set_option maxHeartbeats 4000000 in
theorem c_X8_image {G : GG} {j nw nx gn : Nat} {g : Nat → Sh} {c : Nat → Nat → Int} {post : Option AV → AM → Prop} {P : GD} {T A : Nat} {x : Int} (hnw : nw = 21 ∨ nw = 35) (hE : EL c nw P) (hV : GV P) (hT : c 15 4 = ((T : Nat) : Int)) (hA : c 15 5 = ((A : Nat) : Int)) (hA30 : A ≤ 30) (p1 : -2147483648 ≤ x ∧ x < 2147483648) (K : post (some (vi (q_image P x))) (S nw nx g, 78 + gn, m_image P A x c)) : SM G (j + 2) mX8_image [vr 0, vi x] (S nw nx g, 78 + gn, c) 0 0 post := by
  refine sm_of wX8_image rfl (Nat.le_of_ble_eq_true rfl) ?_
  have hN60 := GV_N hV
  by_cases hv : ¬ gN P = 0 ∧ 0 ≤ x ∧ x < 3
  · obtain ⟨x, rfl⟩ : ∃ n : Nat, x = (n : Int) := ⟨x.toNat, by omega⟩
    rw [q_image, m_image, if_pos hv, if_pos hv] at K
    simp only [Int.toNat_natCast] at K
    refine g_X8_image_0n hnw hE hV hT hA ?_
    refine ⟨?_, ⟨fun q => ?_, fun q => ⟨?_, ⟨fun q => ?_, fun q => ⟨?_, ⟨fun q => ⟨?_, ?_, ?_⟩, fun q => ?_⟩⟩⟩⟩⟩⟩
    all_goals first | exact K | omega | assumption | (exfalso; simp only [decide_eq_true_eq, decide_eq_false_iff_not] at *; omega)
  · rw [q_image, m_image, if_neg hv, if_neg hv] at K
    refine g_X8_image_0 hnw hE hV hT hA ?_
    refine ⟨?_, ⟨fun q => ?_, fun q => ⟨?_, ⟨fun q => ?_, fun q => ⟨?_, ⟨fun q => ?_, fun q => ?_⟩⟩⟩⟩⟩⟩
    all_goals first | exact K | omega | assumption | (exfalso; simp only [decide_eq_true_eq, decide_eq_false_iff_not] at *; omega)

set_option maxHeartbeats 2000000 in
set_option maxRecDepth 20000 in
theorem g_X8_back_0no {G : GG} {j nw nx gn : Nat} {g : Nat → Sh} {c : Nat → Nat → Int} {post : Option AV → AM → Prop} {x : Nat} {P : GD} {T : Nat} {A : Nat} (hnw : nw = 21 ∨ nw = 35) (hE : EL c nw P) (hV : GV P) (hT : c 15 4 = ((T : Nat) : Int)) (hA : c 15 5 = ((A : Nat) : Int))  (hv : (gN P < 2147483648) ∧ (((gN P = 0) → post (some (vi ((-2)))) (S nw nx g, 78 + gn, c)) ∧ ((¬ (gN P = 0)) → (x < 2147483648) ∧ (((((x : Nat) : Int) < 0) → post (some (vi ((-2)))) (S nw nx g, 78 + gn, c)) ∧ ((¬ (((x : Nat) : Int) < 0)) → (x < 2147483648) ∧ (((x < 3) → (x < 3) ∧ (c 19 x = -1) ∧ (post (some (vi ((-6)))) (S nw nx g, 78 + gn, c))) ∧ ((¬ (x < 3)) → post (some (vi ((-2)))) (S nw nx g, 78 + gn, c)))))))) :
    SW G (j + 1) mX8_back 0 [some (vr (0)), some (vi (((x : Nat) : Int)))] [] (S nw nx g, 78 + gn, c) B0 post := by
  refine sw_aload_n (dX8_back.at 0 rfl) rfl rfl ?_
  refine sw_getR (dX8_back.at 1 rfl) fp_X8_65 (S_lt 0 (by decide)) (S_0 nw nx g) rfl rfl ?_
  refine sw_getIE (w := ((gN P : Nat) : Int)) (dX8_back.at 2 rfl) fp_X8_103 (S_e_lt hnw) (S_e hnw) rfl (EL_N hE) ?_
  refine sw_ifN_eq (gN P) (tgt := 19) (dX8_back.at 3 rfl) (by decide) hv.1 (fun q => ?_) (fun q => ?_)
  · replace hv := hv.2.1 q
    refine sw_bipush (dX8_back.at 9 rfl) (by decide) ?_
    exact sw_iret (dX8_back.at 10 rfl) rfl (Nat.le_refl _) (Nat.le_refl _) hv
  · replace hv := hv.2.2 q
    refine sw_iload_n (dX8_back.at 4 rfl) rfl rfl ?_
    refine sw_if_lt (tgt := 19) (dX8_back.at 5 rfl) (by decide) (nrng hv.1) (fun q => ?_) (fun q => ?_)
    · replace hv := hv.2.1 q
      refine sw_bipush (dX8_back.at 9 rfl) (by decide) ?_
      exact sw_iret (dX8_back.at 10 rfl) rfl (Nat.le_refl _) (Nat.le_refl _) hv
    · replace hv := hv.2.2 q
      refine sw_iload_n (dX8_back.at 6 rfl) rfl rfl ?_
      refine sw_iconst (dX8_back.at 7 rfl) ?_
      refine sw_icmpN_lt x 3 (tgt := 22) (dX8_back.at 8 rfl) (by decide) hv.1 (by decide) (fun q => ?_) (fun q => ?_)
      · replace hv := hv.2.1 q
        refine sw_aload_n (dX8_back.at 11 rfl) rfl rfl ?_
        refine sw_getR (dX8_back.at 12 rfl) fp_X8_54 (S_lt 0 (by decide)) (S_0 nw nx g) rfl rfl ?_
        refine sw_iload_n (dX8_back.at 13 rfl) rfl rfl ?_
        refine sw_callV (B' := B0) (As := [vi (((x : Nat) : Int))]) (mc := 0) (ms := 0) (dX8_back.at 14 rfl) lk_X8_323 (S_lt 15 (by decide)) (S_15 nw nx g) rfl rfl (Nat.le_of_ble_eq_true rfl) rfl (Nat.le_refl _) (Nat.le_refl _) ?_
        refine c_X3_bringN (q0 := x) (j := j + 0) hv.1 hv.2.1 ?_
        replace hv := hv.2.2
        refine sw_if_eq (tgt := 37) (dX8_back.at 15 rfl) (by decide) (by decide) (fun q => ?_) (fun q => ?_)
        · clear q
          refine sw_bipush (dX8_back.at 18 rfl) (by decide) ?_
          exact sw_iret (dX8_back.at 19 rfl) rfl (Nat.le_refl _) (Nat.le_refl _) hv
        · exact absurd q (by decide)
      · replace hv := hv.2.2 q
        refine sw_bipush (dX8_back.at 9 rfl) (by decide) ?_
        exact sw_iret (dX8_back.at 10 rfl) rfl (Nat.le_refl _) (Nat.le_refl _) hv

set_option maxHeartbeats 2000000 in
set_option maxRecDepth 20000 in
theorem g_X8_back_0ok {G : GG} {j nw nx gn : Nat} {g : Nat → Sh} {c : Nat → Nat → Int} {post : Option AV → AM → Prop} {x : Nat} {P : GD} {T : Nat} {A : Nat} {A2 : Nat} (hnw : nw = 21 ∨ nw = 35) (hE : EL c nw P) (hV : GV P) (hT : c 15 4 = ((T : Nat) : Int)) (hA : c 15 5 = ((A : Nat) : Int)) (hI : c 19 x = ((A2 : Nat) : Int))  (hv : (gN P < 2147483648) ∧ (((gN P = 0) → post (some (vi ((-2)))) (S nw nx g, 78 + gn, c)) ∧ ((¬ (gN P = 0)) → (x < 2147483648) ∧ (((((x : Nat) : Int) < 0) → post (some (vi ((-2)))) (S nw nx g, 78 + gn, c)) ∧ ((¬ (((x : Nat) : Int) < 0)) → (x < 2147483648) ∧ (((x < 3) → (x < 3) ∧ (A2 ≤ 30) ∧ (post (some (vi (0))) (S nw nx g, 78 + gn, (m_bring c A2 x)))) ∧ ((¬ (x < 3)) → post (some (vi ((-2)))) (S nw nx g, 78 + gn, c)))))))) :
    SW G (j + 1) mX8_back 0 [some (vr (0)), some (vi (((x : Nat) : Int)))] [] (S nw nx g, 78 + gn, c) B0 post := by
  refine sw_aload_n (dX8_back.at 0 rfl) rfl rfl ?_
  refine sw_getR (dX8_back.at 1 rfl) fp_X8_65 (S_lt 0 (by decide)) (S_0 nw nx g) rfl rfl ?_
  refine sw_getIE (w := ((gN P : Nat) : Int)) (dX8_back.at 2 rfl) fp_X8_103 (S_e_lt hnw) (S_e hnw) rfl (EL_N hE) ?_
  refine sw_ifN_eq (gN P) (tgt := 19) (dX8_back.at 3 rfl) (by decide) hv.1 (fun q => ?_) (fun q => ?_)
  · replace hv := hv.2.1 q
    refine sw_bipush (dX8_back.at 9 rfl) (by decide) ?_
    exact sw_iret (dX8_back.at 10 rfl) rfl (Nat.le_refl _) (Nat.le_refl _) hv
  · replace hv := hv.2.2 q
    refine sw_iload_n (dX8_back.at 4 rfl) rfl rfl ?_
    refine sw_if_lt (tgt := 19) (dX8_back.at 5 rfl) (by decide) (nrng hv.1) (fun q => ?_) (fun q => ?_)
    · replace hv := hv.2.1 q
      refine sw_bipush (dX8_back.at 9 rfl) (by decide) ?_
      exact sw_iret (dX8_back.at 10 rfl) rfl (Nat.le_refl _) (Nat.le_refl _) hv
    · replace hv := hv.2.2 q
      refine sw_iload_n (dX8_back.at 6 rfl) rfl rfl ?_
      refine sw_iconst (dX8_back.at 7 rfl) ?_
      refine sw_icmpN_lt x 3 (tgt := 22) (dX8_back.at 8 rfl) (by decide) hv.1 (by decide) (fun q => ?_) (fun q => ?_)
      · replace hv := hv.2.1 q
        refine sw_aload_n (dX8_back.at 11 rfl) rfl rfl ?_
        refine sw_getR (dX8_back.at 12 rfl) fp_X8_54 (S_lt 0 (by decide)) (S_0 nw nx g) rfl rfl ?_
        refine sw_iload_n (dX8_back.at 13 rfl) rfl rfl ?_
        refine sw_callV (B' := B0) (As := [vi (((x : Nat) : Int))]) (mc := 0) (ms := 0) (dX8_back.at 14 rfl) lk_X8_323 (S_lt 15 (by decide)) (S_15 nw nx g) rfl rfl (Nat.le_of_ble_eq_true rfl) rfl (Nat.le_refl _) (Nat.le_refl _) ?_
        refine c_X3_bringY (q0 := x) (j := j + 0) hI hv.1 hv.2.1 ?_
        replace hv := hv.2.2
        refine sw_if_eq (tgt := 37) (dX8_back.at 15 rfl) (by decide) (by decide) (fun q => ?_) (fun q => ?_)
        · exact absurd q (by decide)
        · clear q
          refine sw_iconst (dX8_back.at 16 rfl) ?_
          refine sw_goto (tgt := 39) (dX8_back.at 17 rfl) (by decide) ?_
          exact sw_iret (dX8_back.at 19 rfl) rfl (Nat.le_refl _) (Nat.le_refl _) hv
      · replace hv := hv.2.2 q
        refine sw_bipush (dX8_back.at 9 rfl) (by decide) ?_
        exact sw_iret (dX8_back.at 10 rfl) rfl (Nat.le_refl _) (Nat.le_refl _) hv

set_option maxHeartbeats 2000000 in
set_option maxRecDepth 20000 in
theorem g_X8_back_0 {G : GG} {j nw nx gn : Nat} {g : Nat → Sh} {c : Nat → Nat → Int} {post : Option AV → AM → Prop} {x : Int} {P : GD} {T : Nat} {A : Nat} (hnw : nw = 21 ∨ nw = 35) (hE : EL c nw P) (hV : GV P) (hT : c 15 4 = ((T : Nat) : Int)) (hA : c 15 5 = ((A : Nat) : Int))  (hv : (gN P < 2147483648) ∧ (((gN P = 0) → post (some (vi ((-2)))) (S nw nx g, 78 + gn, c)) ∧ ((¬ (gN P = 0)) → (-2147483648 ≤ x ∧ x < 2147483648) ∧ (((x < 0) → post (some (vi ((-2)))) (S nw nx g, 78 + gn, c)) ∧ ((¬ (x < 0)) → (-2147483648 ≤ x ∧ x < 2147483648) ∧ (((x < 3) → SW G (j + 1) mX8_back 27 [some (vr (0)), some (vi (x))] [vi (x), vr (15)] (S nw nx g, 78 + gn, c) B0 post) ∧ ((¬ (x < 3)) → post (some (vi ((-2)))) (S nw nx g, 78 + gn, c)))))))) :
    SW G (j + 1) mX8_back 0 [some (vr (0)), some (vi (x))] [] (S nw nx g, 78 + gn, c) B0 post := by
  refine sw_aload_n (dX8_back.at 0 rfl) rfl rfl ?_
  refine sw_getR (dX8_back.at 1 rfl) fp_X8_65 (S_lt 0 (by decide)) (S_0 nw nx g) rfl rfl ?_
  refine sw_getIE (w := ((gN P : Nat) : Int)) (dX8_back.at 2 rfl) fp_X8_103 (S_e_lt hnw) (S_e hnw) rfl (EL_N hE) ?_
  refine sw_ifN_eq (gN P) (tgt := 19) (dX8_back.at 3 rfl) (by decide) hv.1 (fun q => ?_) (fun q => ?_)
  · replace hv := hv.2.1 q
    refine sw_bipush (dX8_back.at 9 rfl) (by decide) ?_
    exact sw_iret (dX8_back.at 10 rfl) rfl (Nat.le_refl _) (Nat.le_refl _) hv
  · replace hv := hv.2.2 q
    refine sw_iload_n (dX8_back.at 4 rfl) rfl rfl ?_
    refine sw_if_lt (tgt := 19) (dX8_back.at 5 rfl) (by decide) hv.1 (fun q => ?_) (fun q => ?_)
    · replace hv := hv.2.1 q
      refine sw_bipush (dX8_back.at 9 rfl) (by decide) ?_
      exact sw_iret (dX8_back.at 10 rfl) rfl (Nat.le_refl _) (Nat.le_refl _) hv
    · replace hv := hv.2.2 q
      refine sw_iload_n (dX8_back.at 6 rfl) rfl rfl ?_
      refine sw_iconst (dX8_back.at 7 rfl) ?_
      refine sw_icmp_lt (tgt := 22) (dX8_back.at 8 rfl) (by decide) hv.1 (by decide) (fun q => ?_) (fun q => ?_)
      · replace hv := hv.2.1 q
        refine sw_aload_n (dX8_back.at 11 rfl) rfl rfl ?_
        refine sw_getR (dX8_back.at 12 rfl) fp_X8_54 (S_lt 0 (by decide)) (S_0 nw nx g) rfl rfl ?_
        refine sw_iload_n (dX8_back.at 13 rfl) rfl rfl ?_
        exact hv
      · replace hv := hv.2.2 q
        refine sw_bipush (dX8_back.at 9 rfl) (by decide) ?_
        exact sw_iret (dX8_back.at 10 rfl) rfl (Nat.le_refl _) (Nat.le_refl _) hv

set_option maxHeartbeats 4000000 in
theorem c_X8_back {G : GG} {j nw nx gn : Nat} {g : Nat → Sh} {c : Nat → Nat → Int} {post : Option AV → AM → Prop} {P : GD} {T A : Nat} {x I : Int} (hnw : nw = 21 ∨ nw = 35) (hE : EL c nw P) (hV : GV P) (hT : c 15 4 = ((T : Nat) : Int)) (hA : c 15 5 = ((A : Nat) : Int)) (hI : 0 ≤ x → x < 3 → c 19 x.toNat = I ∧ -1 ≤ I ∧ I ≤ 30) (p1 : -2147483648 ≤ x ∧ x < 2147483648) (K : post (some (vi (q_back P x I))) (S nw nx g, 78 + gn, m_back P x I c)) : SM G (j + 2) mX8_back [vr 0, vi x] (S nw nx g, 78 + gn, c) 0 0 post := by
  refine sm_of wX8_back rfl (Nat.le_of_ble_eq_true rfl) ?_
  have hN60 := GV_N hV
  by_cases hv : ¬ gN P = 0 ∧ 0 ≤ x ∧ x < 3
  · obtain ⟨x, rfl⟩ : ∃ n : Nat, x = (n : Int) := ⟨x.toNat, by omega⟩
    obtain ⟨i1, i2, i3⟩ := hI hv.2.1 hv.2.2
    simp only [Int.toNat_natCast] at i1
    by_cases h1 : I = -1
    · rw [q_back, m_back, if_pos hv, if_pos h1, if_neg (fun h => h.2 h1)] at K
      rw [h1] at i1
      refine g_X8_back_0no hnw hE hV hT hA ?_
      refine ⟨?_, ⟨fun q => ?_, fun q => ⟨?_, ⟨fun q => ?_, fun q => ⟨?_, ⟨fun q => ⟨?_, ?_, ?_⟩, fun q => ?_⟩⟩⟩⟩⟩⟩
      all_goals first | exact K | omega | assumption | (exfalso; simp only [decide_eq_true_eq, decide_eq_false_iff_not] at *; omega)
    · rw [q_back, m_back, if_pos hv, if_neg h1, if_pos ⟨hv, h1⟩] at K
      obtain ⟨A2, rfl⟩ : ∃ n : Nat, I = (n : Int) := ⟨I.toNat, by omega⟩
      simp only [Int.toNat_natCast] at K
      refine g_X8_back_0ok hnw hE hV hT hA i1 ?_
      refine ⟨?_, ⟨fun q => ?_, fun q => ⟨?_, ⟨fun q => ?_, fun q => ⟨?_, ⟨fun q => ⟨?_, ?_, ?_⟩, fun q => ?_⟩⟩⟩⟩⟩⟩
      all_goals first | exact K | omega | assumption | (exfalso; simp only [decide_eq_true_eq, decide_eq_false_iff_not] at *; omega)
  · rw [q_back, m_back, if_neg hv, if_neg (fun h => hv h.1)] at K
    refine g_X8_back_0 hnw hE hV hT hA ?_
    refine ⟨?_, ⟨fun q => ?_, fun q => ⟨?_, ⟨fun q => ?_, fun q => ⟨?_, ⟨fun q => ?_, fun q => ?_⟩⟩⟩⟩⟩⟩
    all_goals first | exact K | omega | assumption | (exfalso; simp only [decide_eq_true_eq, decide_eq_false_iff_not] at *; omega)

set_option maxHeartbeats 2000000 in
set_option maxRecDepth 20000 in
theorem g_X8_undo_0no {G : GG} {j nw nx gn : Nat} {g : Nat → Sh} {c : Nat → Nat → Int} {post : Option AV → AM → Prop} {P : GD} {T : Nat} {A : Nat} (hnw : nw = 21 ∨ nw = 35) (hE : EL c nw P) (hV : GV P) (hT : c 15 4 = ((T : Nat) : Int)) (hA : c 15 5 = ((A : Nat) : Int))  (hv : (gN P < 2147483648) ∧ (((gN P ≠ 0) → (A = 0) ∧ (post (some (vi ((-5)))) (S nw nx g, 78 + gn, c))) ∧ ((gN P = 0) → post (some (vi ((-2)))) (S nw nx g, 78 + gn, c)))) :
    SW G (j + 1) mX8_undo 0 [some (vr (0))] [] (S nw nx g, 78 + gn, c) B0 post := by
  refine sw_aload_n (dX8_undo.at 0 rfl) rfl rfl ?_
  refine sw_getR (dX8_undo.at 1 rfl) fp_X8_65 (S_lt 0 (by decide)) (S_0 nw nx g) rfl rfl ?_
  refine sw_getIE (w := ((gN P : Nat) : Int)) (dX8_undo.at 2 rfl) fp_X8_103 (S_e_lt hnw) (S_e hnw) rfl (EL_N hE) ?_
  refine sw_ifN_ne (gN P) (tgt := 13) (dX8_undo.at 3 rfl) (by decide) hv.1 (fun q => ?_) (fun q => ?_)
  · replace hv := hv.2.1 q
    refine sw_aload_n (dX8_undo.at 6 rfl) rfl rfl ?_
    refine sw_getR (dX8_undo.at 7 rfl) fp_X8_54 (S_lt 0 (by decide)) (S_0 nw nx g) rfl rfl ?_
    refine sw_callV (B' := B0) (As := []) (mc := 0) (ms := 0) (dX8_undo.at 8 rfl) lk_X8_326 (S_lt 15 (by decide)) (S_15 nw nx g) rfl rfl (Nat.le_of_ble_eq_true rfl) rfl (Nat.le_refl _) (Nat.le_refl _) ?_
    refine c_X3_takeBackN  (j := j + 0) hA hv.1 ?_
    replace hv := hv.2
    refine sw_if_eq (tgt := 33) (dX8_undo.at 9 rfl) (by decide) (by decide) (fun q => ?_) (fun q => ?_)
    · clear q
      refine sw_bipush (dX8_undo.at 14 rfl) (by decide) ?_
      exact sw_iret (dX8_undo.at 15 rfl) rfl (Nat.le_refl _) (Nat.le_refl _) hv
    · exact absurd q (by decide)
  · replace hv := hv.2.2 q
    refine sw_bipush (dX8_undo.at 4 rfl) (by decide) ?_
    exact sw_iret (dX8_undo.at 5 rfl) rfl (Nat.le_refl _) (Nat.le_refl _) hv

set_option maxHeartbeats 2000000 in
set_option maxRecDepth 20000 in
theorem g_X8_undo_0ok {G : GG} {j nw nx gn : Nat} {g : Nat → Sh} {c : Nat → Nat → Int} {post : Option AV → AM → Prop} {P : GD} {T : Nat} {A : Nat} (hnw : nw = 21 ∨ nw = 35) (hE : EL c nw P) (hV : GV P) (hT : c 15 4 = ((T : Nat) : Int)) (hA : c 15 5 = ((A : Nat) : Int))  (hv : (gN P < 2147483648) ∧ (((gN P ≠ 0) → (0 < A) ∧ (A ≤ 30) ∧ (post (some (vi (((A - 1 : Nat) : Int)))) (S nw nx g, 78 + gn, (up2 (up2 c 15 5 ((A - 1 : Nat) : Int)) 15 4 (c 16 (A - 1)))))) ∧ ((gN P = 0) → post (some (vi ((-2)))) (S nw nx g, 78 + gn, c)))) :
    SW G (j + 1) mX8_undo 0 [some (vr (0))] [] (S nw nx g, 78 + gn, c) B0 post := by
  refine sw_aload_n (dX8_undo.at 0 rfl) rfl rfl ?_
  refine sw_getR (dX8_undo.at 1 rfl) fp_X8_65 (S_lt 0 (by decide)) (S_0 nw nx g) rfl rfl ?_
  refine sw_getIE (w := ((gN P : Nat) : Int)) (dX8_undo.at 2 rfl) fp_X8_103 (S_e_lt hnw) (S_e hnw) rfl (EL_N hE) ?_
  refine sw_ifN_ne (gN P) (tgt := 13) (dX8_undo.at 3 rfl) (by decide) hv.1 (fun q => ?_) (fun q => ?_)
  · replace hv := hv.2.1 q
    refine sw_aload_n (dX8_undo.at 6 rfl) rfl rfl ?_
    refine sw_getR (dX8_undo.at 7 rfl) fp_X8_54 (S_lt 0 (by decide)) (S_0 nw nx g) rfl rfl ?_
    refine sw_callV (B' := B0) (As := []) (mc := 0) (ms := 0) (dX8_undo.at 8 rfl) lk_X8_326 (S_lt 15 (by decide)) (S_15 nw nx g) rfl rfl (Nat.le_of_ble_eq_true rfl) rfl (Nat.le_refl _) (Nat.le_refl _) ?_
    refine c_X3_takeBackY  (j := j + 0) hA hv.1 hv.2.1 ?_
    replace hv := hv.2.2
    refine sw_if_eq (tgt := 33) (dX8_undo.at 9 rfl) (by decide) (by decide) (fun q => ?_) (fun q => ?_)
    · exact absurd q (by decide)
    · clear q
      refine sw_aload_n (dX8_undo.at 10 rfl) rfl rfl ?_
      refine sw_getR (dX8_undo.at 11 rfl) fp_X8_54 (S_lt 0 (by decide)) (S_0 nw nx g) rfl rfl ?_
      refine sw_getIE (w := ((A - 1 : Nat) : Int)) (dX8_undo.at 12 rfl) fp_X8_119 (S_lt 15 (by decide)) (S_15 nw nx g) rfl ((up2_ne (c := (up2 c 15 5 ((A - 1 : Nat) : Int))) (i := 15) (k := 4) (z := (c 16 (A - 1))) (i' := 15) (k' := 5) (Or.inr (by decide))).trans (up2_eq c 15 5 ((A - 1 : Nat) : Int))) ?_
      refine sw_goto (tgt := 35) (dX8_undo.at 13 rfl) (by decide) ?_
      exact sw_iret (dX8_undo.at 15 rfl) rfl (Nat.le_refl _) (Nat.le_refl _) hv
  · replace hv := hv.2.2 q
    refine sw_bipush (dX8_undo.at 4 rfl) (by decide) ?_
    exact sw_iret (dX8_undo.at 5 rfl) rfl (Nat.le_refl _) (Nat.le_refl _) hv

set_option maxHeartbeats 4000000 in
theorem c_X8_undo {G : GG} {j nw nx gn : Nat} {g : Nat → Sh} {c : Nat → Nat → Int} {post : Option AV → AM → Prop} {P : GD} {T A : Nat} (hnw : nw = 21 ∨ nw = 35) (hE : EL c nw P) (hV : GV P) (hT : c 15 4 = ((T : Nat) : Int)) (hA : c 15 5 = ((A : Nat) : Int)) (hA30 : A ≤ 30) (K : post (some (vi (q_undo P A))) (S nw nx g, 78 + gn, m_undo P A c)) : SM G (j + 2) mX8_undo [vr 0] (S nw nx g, 78 + gn, c) 0 0 post := by
  refine sm_of wX8_undo rfl (Nat.le_of_ble_eq_true rfl) ?_
  have hN60 := GV_N hV
  by_cases h0 : gN P = 0
  · rw [q_undo, m_undo, if_pos h0, if_neg (fun h => h.1 h0)] at K
    by_cases ha : A = 0
    · refine g_X8_undo_0no hnw hE hV hT hA ?_
      refine ⟨?_, ⟨fun q => ⟨?_, ?_⟩, fun q => ?_⟩⟩
      all_goals first | exact K | omega | assumption | (exfalso; simp only [decide_eq_true_eq, decide_eq_false_iff_not] at *; omega)
    · refine g_X8_undo_0ok hnw hE hV hT hA ?_
      refine ⟨?_, ⟨fun q => ⟨?_, ?_, ?_⟩, fun q => ?_⟩⟩
      all_goals first | exact K | omega | assumption | (exfalso; simp only [decide_eq_true_eq, decide_eq_false_iff_not] at *; omega)
  · by_cases ha : A = 0
    · rw [q_undo, m_undo, if_neg h0, if_pos ha, if_neg (fun h => h.2 ha)] at K
      refine g_X8_undo_0no hnw hE hV hT hA ?_
      refine ⟨?_, ⟨fun q => ⟨?_, ?_⟩, fun q => ?_⟩⟩
      all_goals first | exact K | omega | assumption | (exfalso; simp only [decide_eq_true_eq, decide_eq_false_iff_not] at *; omega)
    · rw [q_undo, m_undo, if_neg h0, if_neg ha, if_pos ⟨h0, ha⟩] at K
      refine g_X8_undo_0ok hnw hE hV hT hA ?_
      refine ⟨?_, ⟨fun q => ⟨?_, ?_, ?_⟩, fun q => ?_⟩⟩
      all_goals first | exact K | omega | assumption | (exfalso; simp only [decide_eq_true_eq, decide_eq_false_iff_not] at *; omega)

set_option maxHeartbeats 2000000 in
set_option maxRecDepth 20000 in
theorem g_X8_anew_0 {G : GG} {j nw nx gn : Nat} {g : Nat → Sh} {c : Nat → Nat → Int} {post : Option AV → AM → Prop} {P : GD} {T : Nat} {A : Nat} (hnw : nw = 21 ∨ nw = 35) (hE : EL c nw P) (hV : GV P) (hT : c 15 4 = ((T : Nat) : Int)) (hA : c 15 5 = ((A : Nat) : Int))  (hv : (gN P < 2147483648) ∧ (((gN P ≠ 0) → post (some (vi (((A : Nat) : Int)))) (S nw nx g, 78 + gn, (up2 (up2 c 15 4 0) 15 5 0))) ∧ ((gN P = 0) → post (some (vi ((-2)))) (S nw nx g, 78 + gn, c)))) :
    SW G (j + 1) mX8_anew 0 [some (vr (0)), none] [] (S nw nx g, 78 + gn, c) B0 post := by
  refine sw_aload_n (dX8_anew.at 0 rfl) rfl rfl ?_
  refine sw_getR (dX8_anew.at 1 rfl) fp_X8_65 (S_lt 0 (by decide)) (S_0 nw nx g) rfl rfl ?_
  refine sw_getIE (w := ((gN P : Nat) : Int)) (dX8_anew.at 2 rfl) fp_X8_103 (S_e_lt hnw) (S_e hnw) rfl (EL_N hE) ?_
  refine sw_ifN_ne (gN P) (tgt := 13) (dX8_anew.at 3 rfl) (by decide) hv.1 (fun q => ?_) (fun q => ?_)
  · replace hv := hv.2.1 q
    refine sw_aload_n (dX8_anew.at 6 rfl) rfl rfl ?_
    refine sw_getR (dX8_anew.at 7 rfl) fp_X8_54 (S_lt 0 (by decide)) (S_0 nw nx g) rfl rfl ?_
    refine sw_getIE (w := ((A : Nat) : Int)) (dX8_anew.at 8 rfl) fp_X8_119 (S_lt 15 (by decide)) (S_15 nw nx g) rfl hA ?_
    refine sw_istore_n (lo' := [some (vr (0)), some (vi (((A : Nat) : Int)))]) (dX8_anew.at 9 rfl) rfl (by decide) rfl ?_
    refine sw_aload_n (dX8_anew.at 10 rfl) rfl rfl ?_
    refine sw_getR (dX8_anew.at 11 rfl) fp_X8_54 (S_lt 0 (by decide)) (S_0 nw nx g) rfl rfl ?_
    refine sw_callV (B' := B0) (As := []) (mc := 0) (ms := 0) (dX8_anew.at 12 rfl) lk_X8_330 (S_lt 15 (by decide)) (S_15 nw nx g) rfl rfl (Nat.le_of_ble_eq_true rfl) rfl (Nat.le_refl _) (Nat.le_refl _) ?_
    refine c_X3_takeAllBack  (j := j + 0)  ?_
    refine sw_iload_n (dX8_anew.at 13 rfl) rfl rfl ?_
    exact sw_iret (dX8_anew.at 14 rfl) rfl (Nat.le_refl _) (Nat.le_refl _) hv
  · replace hv := hv.2.2 q
    refine sw_bipush (dX8_anew.at 4 rfl) (by decide) ?_
    exact sw_iret (dX8_anew.at 5 rfl) rfl (Nat.le_refl _) (Nat.le_refl _) hv

set_option maxHeartbeats 4000000 in
theorem c_X8_anew {G : GG} {j nw nx gn : Nat} {g : Nat → Sh} {c : Nat → Nat → Int} {post : Option AV → AM → Prop} {P : GD} {T A : Nat} (hnw : nw = 21 ∨ nw = 35) (hE : EL c nw P) (hV : GV P) (hT : c 15 4 = ((T : Nat) : Int)) (hA : c 15 5 = ((A : Nat) : Int)) (K : post (some (vi (q_anew P A))) (S nw nx g, 78 + gn, m_anew P c)) : SM G (j + 2) mX8_anew [vr 0] (S nw nx g, 78 + gn, c) 0 0 post := by
  refine sm_of wX8_anew rfl (Nat.le_of_ble_eq_true rfl) ?_
  have hN60 := GV_N hV
  refine g_X8_anew_0 hnw hE hV hT hA ?_
  by_cases h0 : gN P = 0
  · rw [q_anew, m_anew, if_pos h0, if_pos h0] at K
    refine ⟨?_, ⟨fun q => ?_, fun q => ?_⟩⟩
    all_goals first | exact K | omega | assumption | (exfalso; simp only [decide_eq_true_eq, decide_eq_false_iff_not] at *; omega)
  · rw [q_anew, m_anew, if_neg h0, if_neg h0] at K
    refine ⟨?_, ⟨fun q => ?_, fun q => ?_⟩⟩
    all_goals first | exact K | omega | assumption | (exfalso; simp only [decide_eq_true_eq, decide_eq_false_iff_not] at *; omega)

def m_put (c : Nat → Nat → Int) (n : Nat) (z : Int) : Nat → Nat → Int :=
  up2 (up2 (up2 (up2 (up2 (up2 (up2 (up2 c 2 n (b8 (b8 (shr32 z 24)))) 1 1 ((n + 1 : Nat) : Int)) 2 (n + 1) (b8 (b8 (shr32 z 16)))) 1 1 ((n + 1 + 1 : Nat) : Int)) 2 (n + 1 + 1) (b8 (b8 (shr32 z 8)))) 1 1 ((n + 1 + 1 + 1 : Nat) : Int)) 2 (n + 1 + 1 + 1) (b8 (b8 (shr32 z 0)))) 1 1 ((n + 1 + 1 + 1 + 1 : Nat) : Int)
set_option maxHeartbeats 2000000 in
set_option maxRecDepth 20000 in
theorem g_X6_put_0 {G : GG} {j nw nx gn : Nat} {g : Nat → Sh} {c : Nat → Nat → Int} {post : Option AV → AM → Prop} {z : Int} {n : Nat} (hS : c 1 1 = ((n : Nat) : Int))  (hv : (n < 2147483648) ∧ (((300 ≤ n) → post none (S nw nx g, 78 + gn, c)) ∧ ((¬ (300 ≤ n)) → (n < 300) ∧ ((n + 1 < 2147483648) ∧ (((300 ≤ n + 1) → post none (S nw nx g, 78 + gn, (up2 (up2 c 2 n (b8 (b8 (shr32 z 24)))) 1 1 ((n + 1 : Nat) : Int)))) ∧ ((¬ (300 ≤ n + 1)) → (n + 1 < 300) ∧ (((n + 1) + 1 < 2147483648) ∧ (((300 ≤ (n + 1) + 1) → post none (S nw nx g, 78 + gn, (up2 (up2 (up2 (up2 c 2 n (b8 (b8 (shr32 z 24)))) 1 1 ((n + 1 : Nat) : Int)) 2 (n + 1) (b8 (b8 (shr32 z 16)))) 1 1 (((n + 1) + 1 : Nat) : Int)))) ∧ ((¬ (300 ≤ (n + 1) + 1)) → ((n + 1) + 1 < 300) ∧ ((((n + 1) + 1) + 1 < 2147483648) ∧ (((300 ≤ ((n + 1) + 1) + 1) → post none (S nw nx g, 78 + gn, (up2 (up2 (up2 (up2 (up2 (up2 c 2 n (b8 (b8 (shr32 z 24)))) 1 1 ((n + 1 : Nat) : Int)) 2 (n + 1) (b8 (b8 (shr32 z 16)))) 1 1 (((n + 1) + 1 : Nat) : Int)) 2 ((n + 1) + 1) (b8 (b8 (shr32 z 8)))) 1 1 ((((n + 1) + 1) + 1 : Nat) : Int)))) ∧ ((¬ (300 ≤ ((n + 1) + 1) + 1)) → (((n + 1) + 1) + 1 < 300) ∧ (post none (S nw nx g, 78 + gn, (up2 (up2 (up2 (up2 (up2 (up2 (up2 (up2 c 2 n (b8 (b8 (shr32 z 24)))) 1 1 ((n + 1 : Nat) : Int)) 2 (n + 1) (b8 (b8 (shr32 z 16)))) 1 1 (((n + 1) + 1 : Nat) : Int)) 2 ((n + 1) + 1) (b8 (b8 (shr32 z 8)))) 1 1 ((((n + 1) + 1) + 1 : Nat) : Int)) 2 (((n + 1) + 1) + 1) (b8 (b8 (shr32 z 0)))) 1 1 (((((n + 1) + 1) + 1) + 1 : Nat) : Int)))))))))))))))) :
    SW G (j + 0) mX6_put 0 [some (vr (1)), some (vi (z)), none] [] (S nw nx g, 78 + gn, c) B0 post := by
  refine sw_bipush (dX6_put.at 0 rfl) (by decide) ?_
  refine sw_istore_n (lo' := [some (vr (1)), some (vi (z)), some (vi (24))]) (dX6_put.at 1 rfl) rfl (by decide) rfl ?_
  refine sw_iload_n (dX6_put.at 2 rfl) rfl rfl ?_
  refine sw_if_lt (tgt := 46) (dX6_put.at 3 rfl) (by decide) (by decide) (fun q => ?_) (fun q => ?_)
  · exact absurd q (by decide)
  · clear q
    refine sw_aload_n (dX6_put.at 4 rfl) rfl rfl ?_
    refine sw_getIE (w := ((n : Nat) : Int)) (dX6_put.at 5 rfl) fp_X6_15 (S_lt 1 (by decide)) (S_1 nw nx g) rfl hS ?_
    refine sw_sipush (dX6_put.at 6 rfl) (by decide) ?_
    refine sw_icmpN_ge n 300 (tgt := 46) (dX6_put.at 7 rfl) (by decide) hv.1 (by decide) (fun q => ?_) (fun q => ?_)
    · replace hv := hv.2.1 q
      exact sw_vret (dX6_put.at 25 rfl) rfl (Nat.le_refl _) (Nat.le_refl _) hv
    · replace hv := hv.2.2 q
      refine sw_aload_n (dX6_put.at 8 rfl) rfl rfl ?_
      refine sw_getR (dX6_put.at 9 rfl) fp_X6_9 (S_lt 1 (by decide)) (S_1 nw nx g) rfl rfl ?_
      refine sw_aload_n (dX6_put.at 10 rfl) rfl rfl ?_
      refine sw_getIE (w := ((n : Nat) : Int)) (dX6_put.at 11 rfl) fp_X6_15 (S_lt 1 (by decide)) (S_1 nw nx g) rfl hS ?_
      refine sw_iload_n (dX6_put.at 12 rfl) rfl rfl ?_
      refine sw_iload_n (dX6_put.at 13 rfl) rfl rfl ?_
      refine sw_ishr (dX6_put.at 14 rfl) ?_
      refine sw_i2b (dX6_put.at 15 rfl) ?_
      refine sw_bastN n (dX6_put.at 16 rfl) (S_lt 2 (by decide)) (S_2 nw nx g) (by decide) hv.1 ?_
      replace hv := hv.2
      refine sw_aload_n (dX6_put.at 17 rfl) rfl rfl ?_
      refine sw_dup (dX6_put.at 18 rfl) (fun _ h => by cases h) ?_
      refine sw_getIE (w := ((n : Nat) : Int)) (dX6_put.at 19 rfl) fp_X6_15 (S_lt 1 (by decide)) (S_1 nw nx g) rfl ((up2_ne (c := c) (i := 2) (k := n) (z := (b8 (b8 (shr32 z 24)))) (i' := 1) (k' := 1) (Or.inl (by decide))).trans hS) ?_
      refine sw_iconst (dX6_put.at 20 rfl) ?_
      refine sw_iadd (dX6_put.at 21 rfl) ?_
      refine sw_topI (y := ((n + 1 : Nat) : Int)) (by first | rfl | (congr 1)) ?_
      refine sw_putI (dX6_put.at 22 rfl) fp_X6_15 (S_lt 1 (by decide)) (S_1 nw nx g) rfl ?_
      refine sw_iinc (lo' := [some (vr (1)), some (vi (z)), some (vi (16))]) (dX6_put.at 23 rfl) rfl (by decide) rfl ?_
      refine sw_goto (tgt := 3) (dX6_put.at 24 rfl) (by decide) ?_
      refine sw_iload_n (dX6_put.at 2 rfl) rfl rfl ?_
      refine sw_if_lt (tgt := 46) (dX6_put.at 3 rfl) (by decide) (by decide) (fun q => ?_) (fun q => ?_)
      · exact absurd q (by decide)
      · clear q
        refine sw_aload_n (dX6_put.at 4 rfl) rfl rfl ?_
        refine sw_getIE (w := ((n + 1 : Nat) : Int)) (dX6_put.at 5 rfl) fp_X6_15 (S_lt 1 (by decide)) (S_1 nw nx g) rfl (up2_eq (up2 c 2 n (b8 (b8 (shr32 z 24)))) 1 1 ((n + 1 : Nat) : Int)) ?_
        refine sw_sipush (dX6_put.at 6 rfl) (by decide) ?_
        refine sw_icmpN_ge (n + 1) 300 (tgt := 46) (dX6_put.at 7 rfl) (by decide) hv.1 (by decide) (fun q => ?_) (fun q => ?_)
        · replace hv := hv.2.1 q
          exact sw_vret (dX6_put.at 25 rfl) rfl (Nat.le_refl _) (Nat.le_refl _) hv
        · replace hv := hv.2.2 q
          refine sw_aload_n (dX6_put.at 8 rfl) rfl rfl ?_
          refine sw_getR (dX6_put.at 9 rfl) fp_X6_9 (S_lt 1 (by decide)) (S_1 nw nx g) rfl rfl ?_
          refine sw_aload_n (dX6_put.at 10 rfl) rfl rfl ?_
          refine sw_getIE (w := ((n + 1 : Nat) : Int)) (dX6_put.at 11 rfl) fp_X6_15 (S_lt 1 (by decide)) (S_1 nw nx g) rfl (up2_eq (up2 c 2 n (b8 (b8 (shr32 z 24)))) 1 1 ((n + 1 : Nat) : Int)) ?_
          refine sw_iload_n (dX6_put.at 12 rfl) rfl rfl ?_
          refine sw_iload_n (dX6_put.at 13 rfl) rfl rfl ?_
          refine sw_ishr (dX6_put.at 14 rfl) ?_
          refine sw_i2b (dX6_put.at 15 rfl) ?_
          refine sw_bastN (n + 1) (dX6_put.at 16 rfl) (S_lt 2 (by decide)) (S_2 nw nx g) (by decide) hv.1 ?_
          replace hv := hv.2
          refine sw_aload_n (dX6_put.at 17 rfl) rfl rfl ?_
          refine sw_dup (dX6_put.at 18 rfl) (fun _ h => by cases h) ?_
          refine sw_getIE (w := ((n + 1 : Nat) : Int)) (dX6_put.at 19 rfl) fp_X6_15 (S_lt 1 (by decide)) (S_1 nw nx g) rfl ((up2_ne (c := (up2 (up2 c 2 n (b8 (b8 (shr32 z 24)))) 1 1 ((n + 1 : Nat) : Int))) (i := 2) (k := (n + 1)) (z := (b8 (b8 (shr32 z 16)))) (i' := 1) (k' := 1) (Or.inl (by decide))).trans (up2_eq (up2 c 2 n (b8 (b8 (shr32 z 24)))) 1 1 ((n + 1 : Nat) : Int))) ?_
          refine sw_iconst (dX6_put.at 20 rfl) ?_
          refine sw_iadd (dX6_put.at 21 rfl) ?_
          refine sw_topI (y := (((n + 1) + 1 : Nat) : Int)) (by first | rfl | (congr 1)) ?_
          refine sw_putI (dX6_put.at 22 rfl) fp_X6_15 (S_lt 1 (by decide)) (S_1 nw nx g) rfl ?_
          refine sw_iinc (lo' := [some (vr (1)), some (vi (z)), some (vi (8))]) (dX6_put.at 23 rfl) rfl (by decide) rfl ?_
          refine sw_goto (tgt := 3) (dX6_put.at 24 rfl) (by decide) ?_
          refine sw_iload_n (dX6_put.at 2 rfl) rfl rfl ?_
          refine sw_if_lt (tgt := 46) (dX6_put.at 3 rfl) (by decide) (by decide) (fun q => ?_) (fun q => ?_)
          · exact absurd q (by decide)
          · clear q
            refine sw_aload_n (dX6_put.at 4 rfl) rfl rfl ?_
            refine sw_getIE (w := (((n + 1) + 1 : Nat) : Int)) (dX6_put.at 5 rfl) fp_X6_15 (S_lt 1 (by decide)) (S_1 nw nx g) rfl (up2_eq (up2 (up2 (up2 c 2 n (b8 (b8 (shr32 z 24)))) 1 1 ((n + 1 : Nat) : Int)) 2 (n + 1) (b8 (b8 (shr32 z 16)))) 1 1 (((n + 1) + 1 : Nat) : Int)) ?_
            refine sw_sipush (dX6_put.at 6 rfl) (by decide) ?_
            refine sw_icmpN_ge ((n + 1) + 1) 300 (tgt := 46) (dX6_put.at 7 rfl) (by decide) hv.1 (by decide) (fun q => ?_) (fun q => ?_)
            · replace hv := hv.2.1 q
              exact sw_vret (dX6_put.at 25 rfl) rfl (Nat.le_refl _) (Nat.le_refl _) hv
            · replace hv := hv.2.2 q
              refine sw_aload_n (dX6_put.at 8 rfl) rfl rfl ?_
              refine sw_getR (dX6_put.at 9 rfl) fp_X6_9 (S_lt 1 (by decide)) (S_1 nw nx g) rfl rfl ?_
              refine sw_aload_n (dX6_put.at 10 rfl) rfl rfl ?_
              refine sw_getIE (w := (((n + 1) + 1 : Nat) : Int)) (dX6_put.at 11 rfl) fp_X6_15 (S_lt 1 (by decide)) (S_1 nw nx g) rfl (up2_eq (up2 (up2 (up2 c 2 n (b8 (b8 (shr32 z 24)))) 1 1 ((n + 1 : Nat) : Int)) 2 (n + 1) (b8 (b8 (shr32 z 16)))) 1 1 (((n + 1) + 1 : Nat) : Int)) ?_
              refine sw_iload_n (dX6_put.at 12 rfl) rfl rfl ?_
              refine sw_iload_n (dX6_put.at 13 rfl) rfl rfl ?_
              refine sw_ishr (dX6_put.at 14 rfl) ?_
              refine sw_i2b (dX6_put.at 15 rfl) ?_
              refine sw_bastN ((n + 1) + 1) (dX6_put.at 16 rfl) (S_lt 2 (by decide)) (S_2 nw nx g) (by decide) hv.1 ?_
              replace hv := hv.2
              refine sw_aload_n (dX6_put.at 17 rfl) rfl rfl ?_
              refine sw_dup (dX6_put.at 18 rfl) (fun _ h => by cases h) ?_
              refine sw_getIE (w := (((n + 1) + 1 : Nat) : Int)) (dX6_put.at 19 rfl) fp_X6_15 (S_lt 1 (by decide)) (S_1 nw nx g) rfl ((up2_ne (c := (up2 (up2 (up2 (up2 c 2 n (b8 (b8 (shr32 z 24)))) 1 1 ((n + 1 : Nat) : Int)) 2 (n + 1) (b8 (b8 (shr32 z 16)))) 1 1 (((n + 1) + 1 : Nat) : Int))) (i := 2) (k := ((n + 1) + 1)) (z := (b8 (b8 (shr32 z 8)))) (i' := 1) (k' := 1) (Or.inl (by decide))).trans (up2_eq (up2 (up2 (up2 c 2 n (b8 (b8 (shr32 z 24)))) 1 1 ((n + 1 : Nat) : Int)) 2 (n + 1) (b8 (b8 (shr32 z 16)))) 1 1 (((n + 1) + 1 : Nat) : Int))) ?_
              refine sw_iconst (dX6_put.at 20 rfl) ?_
              refine sw_iadd (dX6_put.at 21 rfl) ?_
              refine sw_topI (y := ((((n + 1) + 1) + 1 : Nat) : Int)) (by first | rfl | (congr 1)) ?_
              refine sw_putI (dX6_put.at 22 rfl) fp_X6_15 (S_lt 1 (by decide)) (S_1 nw nx g) rfl ?_
              refine sw_iinc (lo' := [some (vr (1)), some (vi (z)), some (vi (0))]) (dX6_put.at 23 rfl) rfl (by decide) rfl ?_
              refine sw_goto (tgt := 3) (dX6_put.at 24 rfl) (by decide) ?_
              refine sw_iload_n (dX6_put.at 2 rfl) rfl rfl ?_
              refine sw_if_lt (tgt := 46) (dX6_put.at 3 rfl) (by decide) (by decide) (fun q => ?_) (fun q => ?_)
              · exact absurd q (by decide)
              · clear q
                refine sw_aload_n (dX6_put.at 4 rfl) rfl rfl ?_
                refine sw_getIE (w := ((((n + 1) + 1) + 1 : Nat) : Int)) (dX6_put.at 5 rfl) fp_X6_15 (S_lt 1 (by decide)) (S_1 nw nx g) rfl (up2_eq (up2 (up2 (up2 (up2 (up2 c 2 n (b8 (b8 (shr32 z 24)))) 1 1 ((n + 1 : Nat) : Int)) 2 (n + 1) (b8 (b8 (shr32 z 16)))) 1 1 (((n + 1) + 1 : Nat) : Int)) 2 ((n + 1) + 1) (b8 (b8 (shr32 z 8)))) 1 1 ((((n + 1) + 1) + 1 : Nat) : Int)) ?_
                refine sw_sipush (dX6_put.at 6 rfl) (by decide) ?_
                refine sw_icmpN_ge (((n + 1) + 1) + 1) 300 (tgt := 46) (dX6_put.at 7 rfl) (by decide) hv.1 (by decide) (fun q => ?_) (fun q => ?_)
                · replace hv := hv.2.1 q
                  exact sw_vret (dX6_put.at 25 rfl) rfl (Nat.le_refl _) (Nat.le_refl _) hv
                · replace hv := hv.2.2 q
                  refine sw_aload_n (dX6_put.at 8 rfl) rfl rfl ?_
                  refine sw_getR (dX6_put.at 9 rfl) fp_X6_9 (S_lt 1 (by decide)) (S_1 nw nx g) rfl rfl ?_
                  refine sw_aload_n (dX6_put.at 10 rfl) rfl rfl ?_
                  refine sw_getIE (w := ((((n + 1) + 1) + 1 : Nat) : Int)) (dX6_put.at 11 rfl) fp_X6_15 (S_lt 1 (by decide)) (S_1 nw nx g) rfl (up2_eq (up2 (up2 (up2 (up2 (up2 c 2 n (b8 (b8 (shr32 z 24)))) 1 1 ((n + 1 : Nat) : Int)) 2 (n + 1) (b8 (b8 (shr32 z 16)))) 1 1 (((n + 1) + 1 : Nat) : Int)) 2 ((n + 1) + 1) (b8 (b8 (shr32 z 8)))) 1 1 ((((n + 1) + 1) + 1 : Nat) : Int)) ?_
                  refine sw_iload_n (dX6_put.at 12 rfl) rfl rfl ?_
                  refine sw_iload_n (dX6_put.at 13 rfl) rfl rfl ?_
                  refine sw_ishr (dX6_put.at 14 rfl) ?_
                  refine sw_i2b (dX6_put.at 15 rfl) ?_
                  refine sw_bastN (((n + 1) + 1) + 1) (dX6_put.at 16 rfl) (S_lt 2 (by decide)) (S_2 nw nx g) (by decide) hv.1 ?_
                  replace hv := hv.2
                  refine sw_aload_n (dX6_put.at 17 rfl) rfl rfl ?_
                  refine sw_dup (dX6_put.at 18 rfl) (fun _ h => by cases h) ?_
                  refine sw_getIE (w := ((((n + 1) + 1) + 1 : Nat) : Int)) (dX6_put.at 19 rfl) fp_X6_15 (S_lt 1 (by decide)) (S_1 nw nx g) rfl ((up2_ne (c := (up2 (up2 (up2 (up2 (up2 (up2 c 2 n (b8 (b8 (shr32 z 24)))) 1 1 ((n + 1 : Nat) : Int)) 2 (n + 1) (b8 (b8 (shr32 z 16)))) 1 1 (((n + 1) + 1 : Nat) : Int)) 2 ((n + 1) + 1) (b8 (b8 (shr32 z 8)))) 1 1 ((((n + 1) + 1) + 1 : Nat) : Int))) (i := 2) (k := (((n + 1) + 1) + 1)) (z := (b8 (b8 (shr32 z 0)))) (i' := 1) (k' := 1) (Or.inl (by decide))).trans (up2_eq (up2 (up2 (up2 (up2 (up2 c 2 n (b8 (b8 (shr32 z 24)))) 1 1 ((n + 1 : Nat) : Int)) 2 (n + 1) (b8 (b8 (shr32 z 16)))) 1 1 (((n + 1) + 1 : Nat) : Int)) 2 ((n + 1) + 1) (b8 (b8 (shr32 z 8)))) 1 1 ((((n + 1) + 1) + 1 : Nat) : Int))) ?_
                  refine sw_iconst (dX6_put.at 20 rfl) ?_
                  refine sw_iadd (dX6_put.at 21 rfl) ?_
                  refine sw_topI (y := (((((n + 1) + 1) + 1) + 1 : Nat) : Int)) (by first | rfl | (congr 1)) ?_
                  refine sw_putI (dX6_put.at 22 rfl) fp_X6_15 (S_lt 1 (by decide)) (S_1 nw nx g) rfl ?_
                  refine sw_iinc (lo' := [some (vr (1)), some (vi (z)), some (vi ((-8)))]) (dX6_put.at 23 rfl) rfl (by decide) rfl ?_
                  refine sw_goto (tgt := 3) (dX6_put.at 24 rfl) (by decide) ?_
                  refine sw_iload_n (dX6_put.at 2 rfl) rfl rfl ?_
                  refine sw_if_lt (tgt := 46) (dX6_put.at 3 rfl) (by decide) (by decide) (fun q => ?_) (fun q => ?_)
                  · clear q
                    exact sw_vret (dX6_put.at 25 rfl) rfl (Nat.le_refl _) (Nat.le_refl _) hv
                  · exact absurd q (by decide)

set_option maxHeartbeats 2000000 in
theorem c_X6_put {G : GG} {j nw nx gn : Nat} {g : Nat → Sh} {c : Nat → Nat → Int} {post : Option AV → AM → Prop} {n : Nat} {z : Int} (hS : c 1 1 = ((n : Nat) : Int)) (p1 : n + 4 ≤ 300) (K : post none (S nw nx g, 78 + gn, (m_put c n z))) : SM G (j + 1) mX6_put [vr (1), vi (z)] (S nw nx g, 78 + gn, c) 0 0 post := by
  refine sm_of wX6_put rfl (Nat.le_of_ble_eq_true rfl) ?_
  refine g_X6_put_0 hS ?_
  refine ⟨?_, ⟨fun q => ?_, fun q => ⟨?_, ⟨?_, ⟨fun q => ?_, fun q => ⟨?_, ⟨?_, ⟨fun q => ?_, fun q => ⟨?_, ⟨?_, ⟨fun q => ?_, fun q => ⟨?_, ?_⟩⟩⟩⟩⟩⟩⟩⟩⟩⟩⟩⟩
  all_goals first | exact K | omega | (exfalso; omega)

