set_option maxHeartbeats 2000000 in
set_option maxRecDepth 20000 in
theorem g_X3_takeAllBack_0 {G : GG} {j nw nx gn : Nat} {g : Nat → Sh} {c : Nat → Nat → Int} {post : Option AV → AM → Prop}  (hv : post none (S nw nx g, 78 + gn, (up2 (up2 c 15 4 0) 15 5 0))) :
    SW G (j + 0) mX3_takeAllBack 0 [some (vr (15))] [] (S nw nx g, 78 + gn, c) B0 post := by
  refine sw_aload_n (dX3_takeAllBack.at 0 rfl) rfl rfl ?_
  refine sw_lconst (z := 0) (dX3_takeAllBack.at 1 rfl) (by decide) ?_
  refine sw_putL (dX3_takeAllBack.at 2 rfl) fp_X3_28 (S_lt 15 (by decide)) (S_15 nw nx g) rfl ?_
  refine sw_aload_n (dX3_takeAllBack.at 3 rfl) rfl rfl ?_
  refine sw_iconst (dX3_takeAllBack.at 4 rfl) ?_
  refine sw_putI (dX3_takeAllBack.at 5 rfl) fp_X3_32 (S_lt 15 (by decide)) (S_15 nw nx g) rfl ?_
  exact sw_vret (dX3_takeAllBack.at 6 rfl) rfl (Nat.le_refl _) (Nat.le_refl _) hv

set_option maxHeartbeats 2000000 in
theorem c_X3_takeAllBack {G : GG} {j nw nx gn : Nat} {g : Nat → Sh} {c : Nat → Nat → Int} {post : Option AV → AM → Prop} (K : post none (S nw nx g, 78 + gn, (up2 (up2 c 15 4 0) 15 5 0))) : SM G (j + 1) mX3_takeAllBack [vr (15)] (S nw nx g, 78 + gn, c) 0 0 post := by
  refine sm_of wX3_takeAllBack rfl (Nat.le_of_ble_eq_true rfl) ?_
  refine g_X3_takeAllBack_0  ?_
  exact K

set_option maxHeartbeats 2000000 in
set_option maxRecDepth 20000 in
theorem g_X3_reset_0 {G : GG} {j nw nx gn : Nat} {g : Nat → Sh} {c : Nat → Nat → Int} {post : Option AV → AM → Prop}  (hv : post none (S nw nx g, 78 + gn, (up2 (up2 (up2 (up2 (up2 c 15 4 0) 15 5 0) 19 0 (-1)) 19 1 (-1)) 19 2 (-1)))) :
    SW G (j + 0) mX3_reset 0 [some (vr (15)), none] [] (S nw nx g, 78 + gn, c) B0 post := by
  refine sw_aload_n (dX3_reset.at 0 rfl) rfl rfl ?_
  refine sw_lconst (z := 0) (dX3_reset.at 1 rfl) (by decide) ?_
  refine sw_putL (dX3_reset.at 2 rfl) fp_X3_28 (S_lt 15 (by decide)) (S_15 nw nx g) rfl ?_
  refine sw_aload_n (dX3_reset.at 3 rfl) rfl rfl ?_
  refine sw_iconst (dX3_reset.at 4 rfl) ?_
  refine sw_putI (dX3_reset.at 5 rfl) fp_X3_32 (S_lt 15 (by decide)) (S_15 nw nx g) rfl ?_
  refine sw_iconst (dX3_reset.at 6 rfl) ?_
  refine sw_istore_n (lo' := [some (vr (15)), some (vi (0))]) (dX3_reset.at 7 rfl) rfl (by decide) rfl ?_
  refine sw_iload_n (dX3_reset.at 8 rfl) rfl rfl ?_
  refine sw_iconst (dX3_reset.at 9 rfl) ?_
  refine sw_icmp_ge (tgt := 30) (dX3_reset.at 10 rfl) (by decide) (by decide) (by decide) (fun q => ?_) (fun q => ?_)
  · exact absurd q (by decide)
  · clear q
    refine sw_aload_n (dX3_reset.at 11 rfl) rfl rfl ?_
    refine sw_getR (dX3_reset.at 12 rfl) fp_X3_21 (S_lt 15 (by decide)) (S_15 nw nx g) rfl rfl ?_
    refine sw_iload_n (dX3_reset.at 13 rfl) rfl rfl ?_
    refine sw_iconst (dX3_reset.at 14 rfl) ?_
    refine sw_iastN 0 (dX3_reset.at 15 rfl) (S_lt 19 (by decide)) (S_19 nw nx g) (by decide) (by decide) ?_
    refine sw_iinc (lo' := [some (vr (15)), some (vi (1))]) (dX3_reset.at 16 rfl) rfl (by decide) rfl ?_
    refine sw_goto (tgt := 12) (dX3_reset.at 17 rfl) (by decide) ?_
    refine sw_iload_n (dX3_reset.at 8 rfl) rfl rfl ?_
    refine sw_iconst (dX3_reset.at 9 rfl) ?_
    refine sw_icmp_ge (tgt := 30) (dX3_reset.at 10 rfl) (by decide) (by decide) (by decide) (fun q => ?_) (fun q => ?_)
    · exact absurd q (by decide)
    · clear q
      refine sw_aload_n (dX3_reset.at 11 rfl) rfl rfl ?_
      refine sw_getR (dX3_reset.at 12 rfl) fp_X3_21 (S_lt 15 (by decide)) (S_15 nw nx g) rfl rfl ?_
      refine sw_iload_n (dX3_reset.at 13 rfl) rfl rfl ?_
      refine sw_iconst (dX3_reset.at 14 rfl) ?_
      refine sw_iastN 1 (dX3_reset.at 15 rfl) (S_lt 19 (by decide)) (S_19 nw nx g) (by decide) (by decide) ?_
      refine sw_iinc (lo' := [some (vr (15)), some (vi (2))]) (dX3_reset.at 16 rfl) rfl (by decide) rfl ?_
      refine sw_goto (tgt := 12) (dX3_reset.at 17 rfl) (by decide) ?_
      refine sw_iload_n (dX3_reset.at 8 rfl) rfl rfl ?_
      refine sw_iconst (dX3_reset.at 9 rfl) ?_
      refine sw_icmp_ge (tgt := 30) (dX3_reset.at 10 rfl) (by decide) (by decide) (by decide) (fun q => ?_) (fun q => ?_)
      · exact absurd q (by decide)
      · clear q
        refine sw_aload_n (dX3_reset.at 11 rfl) rfl rfl ?_
        refine sw_getR (dX3_reset.at 12 rfl) fp_X3_21 (S_lt 15 (by decide)) (S_15 nw nx g) rfl rfl ?_
        refine sw_iload_n (dX3_reset.at 13 rfl) rfl rfl ?_
        refine sw_iconst (dX3_reset.at 14 rfl) ?_
        refine sw_iastN 2 (dX3_reset.at 15 rfl) (S_lt 19 (by decide)) (S_19 nw nx g) (by decide) (by decide) ?_
        refine sw_iinc (lo' := [some (vr (15)), some (vi (3))]) (dX3_reset.at 16 rfl) rfl (by decide) rfl ?_
        refine sw_goto (tgt := 12) (dX3_reset.at 17 rfl) (by decide) ?_
        refine sw_iload_n (dX3_reset.at 8 rfl) rfl rfl ?_
        refine sw_iconst (dX3_reset.at 9 rfl) ?_
        refine sw_icmp_ge (tgt := 30) (dX3_reset.at 10 rfl) (by decide) (by decide) (by decide) (fun q => ?_) (fun q => ?_)
        · clear q
          exact sw_vret (dX3_reset.at 18 rfl) rfl (Nat.le_refl _) (Nat.le_refl _) hv
        · exact absurd q (by decide)

set_option maxHeartbeats 2000000 in
theorem c_X3_reset {G : GG} {j nw nx gn : Nat} {g : Nat → Sh} {c : Nat → Nat → Int} {post : Option AV → AM → Prop} (K : post none (S nw nx g, 78 + gn, (up2 (up2 (up2 (up2 (up2 c 15 4 0) 15 5 0) 19 0 (-1)) 19 1 (-1)) 19 2 (-1)))) : SM G (j + 1) mX3_reset [vr (15)] (S nw nx g, 78 + gn, c) 0 0 post := by
  refine sm_of wX3_reset rfl (Nat.le_of_ble_eq_true rfl) ?_
  refine g_X3_reset_0  ?_
  exact K

set_option maxHeartbeats 2000000 in
set_option maxRecDepth 20000 in
theorem g_X3_takeBack_0 {G : GG} {j nw nx gn : Nat} {g : Nat → Sh} {c : Nat → Nat → Int} {post : Option AV → AM → Prop} {A : Nat} (hA : c 15 5 = ((A : Nat) : Int))  (hv : (A < 2147483648) ∧ (((A ≠ 0) → (1 ≤ A) ∧ ((A - 1 < 30) ∧ (post (some (vi (1))) (S nw nx g, 78 + gn, (up2 (up2 c 15 5 ((A - 1 : Nat) : Int)) 15 4 ((up2 c 15 5 ((A - 1 : Nat) : Int)) 16 (A - 1))))))) ∧ ((A = 0) → post (some (vi (0))) (S nw nx g, 78 + gn, c)))) :
    SW G (j + 0) mX3_takeBack 0 [some (vr (15))] [] (S nw nx g, 78 + gn, c) B0 post := by
  refine sw_aload_n (dX3_takeBack.at 0 rfl) rfl rfl ?_
  refine sw_getIE (w := ((A : Nat) : Int)) (dX3_takeBack.at 1 rfl) fp_X3_32 (S_lt 15 (by decide)) (S_15 nw nx g) rfl hA ?_
  refine sw_ifN_ne A (tgt := 9) (dX3_takeBack.at 2 rfl) (by decide) hv.1 (fun q => ?_) (fun q => ?_)
  · replace hv := hv.2.1 q
    refine sw_aload_n (dX3_takeBack.at 5 rfl) rfl rfl ?_
    refine sw_dup (dX3_takeBack.at 6 rfl) (fun _ h => by cases h) ?_
    refine sw_getIE (w := ((A : Nat) : Int)) (dX3_takeBack.at 7 rfl) fp_X3_32 (S_lt 15 (by decide)) (S_15 nw nx g) rfl hA ?_
    refine sw_iconst (dX3_takeBack.at 8 rfl) ?_
    refine sw_isub (dX3_takeBack.at 9 rfl) ?_
    refine sw_topI (y := ((A - 1 : Nat) : Int)) (congrArg _ (Int.ofNat_sub hv.1).symm) ?_
    replace hv := hv.2
    refine sw_putI (dX3_takeBack.at 10 rfl) fp_X3_32 (S_lt 15 (by decide)) (S_15 nw nx g) rfl ?_
    refine sw_aload_n (dX3_takeBack.at 11 rfl) rfl rfl ?_
    refine sw_aload_n (dX3_takeBack.at 12 rfl) rfl rfl ?_
    refine sw_getR (dX3_takeBack.at 13 rfl) fp_X3_9 (S_lt 15 (by decide)) (S_15 nw nx g) rfl rfl ?_
    refine sw_aload_n (dX3_takeBack.at 14 rfl) rfl rfl ?_
    refine sw_getIE (w := ((A - 1 : Nat) : Int)) (dX3_takeBack.at 15 rfl) fp_X3_32 (S_lt 15 (by decide)) (S_15 nw nx g) rfl (up2_eq c 15 5 ((A - 1 : Nat) : Int)) ?_
    refine sw_laldN (A - 1) (dX3_takeBack.at 16 rfl) (S_lt 16 (by decide)) (S_16 nw nx g) (by decide) hv.1 rfl ?_
    replace hv := hv.2
    refine sw_putL (dX3_takeBack.at 17 rfl) fp_X3_28 (S_lt 15 (by decide)) (S_15 nw nx g) rfl ?_
    refine sw_iconst (dX3_takeBack.at 18 rfl) ?_
    exact sw_zret (dX3_takeBack.at 19 rfl) rfl (by decide) (Nat.le_refl _) (Nat.le_refl _) hv
  · replace hv := hv.2.2 q
    refine sw_iconst (dX3_takeBack.at 3 rfl) ?_
    exact sw_zret (dX3_takeBack.at 4 rfl) rfl (by decide) (Nat.le_refl _) (Nat.le_refl _) hv

set_option maxHeartbeats 2000000 in
theorem c_X3_takeBackN {G : GG} {j nw nx gn : Nat} {g : Nat → Sh} {c : Nat → Nat → Int} {post : Option AV → AM → Prop} {A : Nat} (hA : c 15 5 = ((A : Nat) : Int)) (p1 : A = 0) (K : post (some (vi (bz (false)))) (S nw nx g, 78 + gn, c)) : SM G (j + 1) mX3_takeBack [vr (15)] (S nw nx g, 78 + gn, c) 0 0 post := by
  refine sm_of wX3_takeBack rfl (Nat.le_of_ble_eq_true rfl) ?_
  refine g_X3_takeBack_0 hA ?_
  refine ⟨?_, ⟨fun q => ⟨?_, ⟨?_, ?_⟩⟩, fun q => ?_⟩⟩
  all_goals first | exact K | omega | (exfalso; omega)

set_option maxHeartbeats 2000000 in
theorem c_X3_takeBackY {G : GG} {j nw nx gn : Nat} {g : Nat → Sh} {c : Nat → Nat → Int} {post : Option AV → AM → Prop} {A : Nat} (hA : c 15 5 = ((A : Nat) : Int)) (p1 : 0 < A) (p2 : A ≤ 30) (K : post (some (vi (bz (true)))) (S nw nx g, 78 + gn, (up2 (up2 c 15 5 ((A - 1 : Nat) : Int)) 15 4 (c 16 (A - 1))))) : SM G (j + 1) mX3_takeBack [vr (15)] (S nw nx g, 78 + gn, c) 0 0 post := by
  refine sm_of wX3_takeBack rfl (Nat.le_of_ble_eq_true rfl) ?_
  refine g_X3_takeBack_0 hA ?_
  rw [show (up2 (up2 c 15 5 ((A - 1 : Nat) : Int)) 15 4 (c 16 (A - 1))) = (up2 (up2 c 15 5 ((A - 1 : Nat) : Int)) 15 4 ((up2 c 15 5 ((A - 1 : Nat) : Int)) 16 (A - 1))) from by rw [up2_ne (c := c) (i := 15) (k := 5) (i' := 16) (Or.inl (by decide))]] at K
  refine ⟨?_, ⟨fun q => ⟨?_, ⟨?_, ?_⟩⟩, fun q => ?_⟩⟩
  all_goals first | exact K | omega | (exfalso; omega)

def cpK (c : Nat → Nat → Int) (q : Nat) : Nat → Nat → Nat → Int
  | 0 => c
  | i + 1 => up2 (cpK c q i) 17 (q * 30 + i) (c 16 i)
theorem cpK_off (c : Nat → Nat → Int) (q : Nat) : ∀ i a k, a ≠ 17 → cpK c q i a k = c a k := by
  intro i
  induction i with
  | zero => intro a k _; rfl
  | succ i ih => intro a k h; rw [cpK, up2_ne (Or.inl h)]; exact ih a k h
def m_keep (c : Nat → Nat → Int) (A q : Nat) : Nat → Nat → Int := cpK (up2 (up2 c 18 q (c 15 4)) 19 q (A : Int)) q A
set_option maxHeartbeats 2000000 in
set_option maxRecDepth 20000 in
theorem g_X3_keep_22 {G : GG} {j nw nx gn : Nat} {g : Nat → Sh} {c : Nat → Nat → Int} {post : Option AV → AM → Prop} {q0 : Nat} {A : Nat} {i : Nat} (hA : c 15 5 = ((A : Nat) : Int))  (hv : (i < 2147483648) ∧ (A < 2147483648) ∧ (((A ≤ i) → post none (S nw nx g, 78 + gn, c)) ∧ ((¬ (A ≤ i)) → (i < 30) ∧ (((q0 * 30) + i < 90) ∧ (SW G (j + 0) mX3_keep 22 [some (vr (15)), some (vi (((q0 : Nat) : Int))), some (vi (((i + 1 : Nat) : Int)))] [] (S nw nx g, 78 + gn, (up2 c 17 ((q0 * 30) + i) (c 16 i))) B0 post))))) :
    SW G (j + 0) mX3_keep 22 [some (vr (15)), some (vi (((q0 : Nat) : Int))), some (vi (((i : Nat) : Int)))] [] (S nw nx g, 78 + gn, c) B0 post := by
  refine sw_iload_n (dX3_keep.at 14 rfl) rfl rfl ?_
  refine sw_aload_n (dX3_keep.at 15 rfl) rfl rfl ?_
  refine sw_getIE (w := ((A : Nat) : Int)) (dX3_keep.at 16 rfl) fp_X3_32 (S_lt 15 (by decide)) (S_15 nw nx g) rfl hA ?_
  refine sw_icmpN_ge i A (tgt := 53) (dX3_keep.at 17 rfl) (by decide) hv.1 hv.2.1 (fun q => ?_) (fun q => ?_)
  · replace hv := hv.2.2.1 q
    exact sw_vret (dX3_keep.at 32 rfl) rfl (Nat.le_refl _) (Nat.le_refl _) hv
  · replace hv := hv.2.2.2 q
    refine sw_aload_n (dX3_keep.at 18 rfl) rfl rfl ?_
    refine sw_getR (dX3_keep.at 19 rfl) fp_X3_15 (S_lt 15 (by decide)) (S_15 nw nx g) rfl rfl ?_
    refine sw_iload_n (dX3_keep.at 20 rfl) rfl rfl ?_
    refine sw_bipush (dX3_keep.at 21 rfl) (by decide) ?_
    refine sw_imul (dX3_keep.at 22 rfl) ?_
    refine sw_topI (y := ((q0 * 30 : Nat) : Int)) (by first | rfl | (congr 1)) ?_
    refine sw_iload_n (dX3_keep.at 23 rfl) rfl rfl ?_
    refine sw_iadd (dX3_keep.at 24 rfl) ?_
    refine sw_topI (y := (((q0 * 30) + i : Nat) : Int)) (by first | rfl | (congr 1)) ?_
    refine sw_aload_n (dX3_keep.at 25 rfl) rfl rfl ?_
    refine sw_getR (dX3_keep.at 26 rfl) fp_X3_9 (S_lt 15 (by decide)) (S_15 nw nx g) rfl rfl ?_
    refine sw_iload_n (dX3_keep.at 27 rfl) rfl rfl ?_
    refine sw_laldN i (dX3_keep.at 28 rfl) (S_lt 16 (by decide)) (S_16 nw nx g) (by decide) hv.1 rfl ?_
    replace hv := hv.2
    refine sw_lastN ((q0 * 30) + i) (dX3_keep.at 29 rfl) (S_lt 17 (by decide)) (S_17 nw nx g) (by decide) hv.1 ?_
    replace hv := hv.2
    refine sw_iinc (lo' := [some (vr (15)), some (vi (((q0 : Nat) : Int))), some (vi (((i + 1 : Nat) : Int)))]) (dX3_keep.at 30 rfl) rfl (by decide) rfl ?_
    refine sw_goto (tgt := 22) (dX3_keep.at 31 rfl) (by decide) ?_
    exact hv

set_option maxHeartbeats 2000000 in
theorem lp_X3_keep_22 {G : GG} {j nw nx gn : Nat} {g : Nat → Sh} {c : Nat → Nat → Int} {post : Option AV → AM → Prop} {A q0 : Nat} (hA : c 15 5 = ((A : Nat) : Int)) (hq : q0 < 3) (hA30 : A ≤ 30) (K : post none (S nw nx g, 78 + gn, cpK c q0 A)) : ∀ k i : Nat, i + k = A → SW G (j + 0) mX3_keep 22 [some (vr (15)), some (vi (((q0 : Nat) : Int))), some (vi (((i : Nat) : Int)))] [] (S nw nx g, 78 + gn, cpK c q0 i) B0 post := by
  intro k
  induction k with
  | zero =>
    intro i hi
    have e : i = A := by omega
    subst e
    refine g_X3_keep_22 (A := i) ((cpK_off c q0 i 15 5 (by decide)).trans hA) ?_
    refine ⟨?_, ?_, ⟨fun q => ?_, fun q => ⟨?_, ⟨?_, ?_⟩⟩⟩⟩
    all_goals first | exact K | omega | (exfalso; omega)
  | succ k ih =>
    intro i hi
    refine g_X3_keep_22 (A := A) ((cpK_off c q0 i 15 5 (by decide)).trans hA) ?_
    have h := ih (i + 1) (by omega)
    rw [cpK, ← cpK_off c q0 i 16 i (by decide)] at h
    refine ⟨?_, ?_, ⟨fun q => ?_, fun q => ⟨?_, ⟨?_, ?_⟩⟩⟩⟩
    all_goals first | exact h | omega | (exfalso; omega)

set_option maxHeartbeats 2000000 in
set_option maxRecDepth 20000 in
theorem g_X3_keep_0 {G : GG} {j nw nx gn : Nat} {g : Nat → Sh} {c : Nat → Nat → Int} {post : Option AV → AM → Prop} {q0 : Nat} {A : Nat} (hA : c 15 5 = ((A : Nat) : Int))  (hv : (q0 < 3) ∧ ((q0 < 3) ∧ (SW G (j + 0) mX3_keep 22 [some (vr (15)), some (vi (((q0 : Nat) : Int))), some (vi (0))] [] (S nw nx g, 78 + gn, (up2 (up2 c 18 q0 (c 15 4)) 19 q0 ((A : Nat) : Int))) B0 post))) :
    SW G (j + 0) mX3_keep 0 [some (vr (15)), some (vi (((q0 : Nat) : Int))), none] [] (S nw nx g, 78 + gn, c) B0 post := by
  refine sw_aload_n (dX3_keep.at 0 rfl) rfl rfl ?_
  refine sw_getR (dX3_keep.at 1 rfl) fp_X3_18 (S_lt 15 (by decide)) (S_15 nw nx g) rfl rfl ?_
  refine sw_iload_n (dX3_keep.at 2 rfl) rfl rfl ?_
  refine sw_aload_n (dX3_keep.at 3 rfl) rfl rfl ?_
  refine sw_getL (dX3_keep.at 4 rfl) fp_X3_28 (S_lt 15 (by decide)) (S_15 nw nx g) rfl ?_
  refine sw_lastN q0 (dX3_keep.at 5 rfl) (S_lt 18 (by decide)) (S_18 nw nx g) (by decide) hv.1 ?_
  replace hv := hv.2
  refine sw_aload_n (dX3_keep.at 6 rfl) rfl rfl ?_
  refine sw_getR (dX3_keep.at 7 rfl) fp_X3_21 (S_lt 15 (by decide)) (S_15 nw nx g) rfl rfl ?_
  refine sw_iload_n (dX3_keep.at 8 rfl) rfl rfl ?_
  refine sw_aload_n (dX3_keep.at 9 rfl) rfl rfl ?_
  refine sw_getIE (w := ((A : Nat) : Int)) (dX3_keep.at 10 rfl) fp_X3_32 (S_lt 15 (by decide)) (S_15 nw nx g) rfl ((up2_ne (c := c) (i := 18) (k := q0) (z := (c 15 4)) (i' := 15) (k' := 5) (Or.inl (by decide))).trans hA) ?_
  refine sw_iastN q0 (dX3_keep.at 11 rfl) (S_lt 19 (by decide)) (S_19 nw nx g) (by decide) hv.1 ?_
  replace hv := hv.2
  refine sw_iconst (dX3_keep.at 12 rfl) ?_
  refine sw_istore_n (lo' := [some (vr (15)), some (vi (((q0 : Nat) : Int))), some (vi (0))]) (dX3_keep.at 13 rfl) rfl (by decide) rfl ?_
  exact hv

set_option maxHeartbeats 2000000 in
theorem c_X3_keep {G : GG} {j nw nx gn : Nat} {g : Nat → Sh} {c : Nat → Nat → Int} {post : Option AV → AM → Prop} {A : Nat} {q0 : Nat} (hA : c 15 5 = ((A : Nat) : Int)) (p1 : q0 < 3) (p2 : A ≤ 30) (K : post none (S nw nx g, 78 + gn, (m_keep c A q0))) : SM G (j + 1) mX3_keep [vr (15), vi (((q0 : Nat) : Int))] (S nw nx g, 78 + gn, c) 0 0 post := by
  refine sm_of wX3_keep rfl (Nat.le_of_ble_eq_true rfl) ?_
  refine g_X3_keep_0 hA ?_
  refine ⟨?_, ⟨?_, ?_⟩⟩
  all_goals first | omega | exact lp_X3_keep_22 (A := A) (by rw [up2_ne (Or.inl (by decide)), up2_ne (Or.inl (by decide))]; exact hA) p1 p2 K A 0 (by omega)

def cpB (c : Nat → Nat → Int) (q : Nat) : Nat → Nat → Nat → Int
  | 0 => c
  | i + 1 => up2 (cpB c q i) 16 i (c 17 (q * 30 + i))
theorem cpB_off (c : Nat → Nat → Int) (q : Nat) : ∀ i a k, a ≠ 16 → cpB c q i a k = c a k := by
  intro i
  induction i with
  | zero => intro a k _; rfl
  | succ i ih => intro a k h; rw [cpB, up2_ne (Or.inl h)]; exact ih a k h
def m_bring (c : Nat → Nat → Int) (A q : Nat) : Nat → Nat → Int := cpB (up2 (up2 c 15 4 (c 18 q)) 15 5 (A : Int)) q A
set_option maxHeartbeats 2000000 in
set_option maxRecDepth 20000 in
theorem g_X3_bring_34 {G : GG} {j nw nx gn : Nat} {g : Nat → Sh} {c : Nat → Nat → Int} {post : Option AV → AM → Prop} {q0 : Nat} {A : Nat} {i : Nat} (hA : c 15 5 = ((A : Nat) : Int))  (hv : (i < 2147483648) ∧ (A < 2147483648) ∧ (((A ≤ i) → post (some (vi (1))) (S nw nx g, 78 + gn, c)) ∧ ((¬ (A ≤ i)) → ((q0 * 30) + i < 90) ∧ ((i < 30) ∧ (SW G (j + 0) mX3_bring 34 [some (vr (15)), some (vi (((q0 : Nat) : Int))), some (vi (((i + 1 : Nat) : Int)))] [] (S nw nx g, 78 + gn, (up2 c 16 i (c 17 ((q0 * 30) + i)))) B0 post))))) :
    SW G (j + 0) mX3_bring 34 [some (vr (15)), some (vi (((q0 : Nat) : Int))), some (vi (((i : Nat) : Int)))] [] (S nw nx g, 78 + gn, c) B0 post := by
  refine sw_iload_n (dX3_bring.at 22 rfl) rfl rfl ?_
  refine sw_aload_n (dX3_bring.at 23 rfl) rfl rfl ?_
  refine sw_getIE (w := ((A : Nat) : Int)) (dX3_bring.at 24 rfl) fp_X3_32 (S_lt 15 (by decide)) (S_15 nw nx g) rfl hA ?_
  refine sw_icmpN_ge i A (tgt := 65) (dX3_bring.at 25 rfl) (by decide) hv.1 hv.2.1 (fun q => ?_) (fun q => ?_)
  · replace hv := hv.2.2.1 q
    refine sw_iconst (dX3_bring.at 40 rfl) ?_
    exact sw_zret (dX3_bring.at 41 rfl) rfl (by decide) (Nat.le_refl _) (Nat.le_refl _) hv
  · replace hv := hv.2.2.2 q
    refine sw_aload_n (dX3_bring.at 26 rfl) rfl rfl ?_
    refine sw_getR (dX3_bring.at 27 rfl) fp_X3_9 (S_lt 15 (by decide)) (S_15 nw nx g) rfl rfl ?_
    refine sw_iload_n (dX3_bring.at 28 rfl) rfl rfl ?_
    refine sw_aload_n (dX3_bring.at 29 rfl) rfl rfl ?_
    refine sw_getR (dX3_bring.at 30 rfl) fp_X3_15 (S_lt 15 (by decide)) (S_15 nw nx g) rfl rfl ?_
    refine sw_iload_n (dX3_bring.at 31 rfl) rfl rfl ?_
    refine sw_bipush (dX3_bring.at 32 rfl) (by decide) ?_
    refine sw_imul (dX3_bring.at 33 rfl) ?_
    refine sw_topI (y := ((q0 * 30 : Nat) : Int)) (by first | rfl | (congr 1)) ?_
    refine sw_iload_n (dX3_bring.at 34 rfl) rfl rfl ?_
    refine sw_iadd (dX3_bring.at 35 rfl) ?_
    refine sw_topI (y := (((q0 * 30) + i : Nat) : Int)) (by first | rfl | (congr 1)) ?_
    refine sw_laldN ((q0 * 30) + i) (dX3_bring.at 36 rfl) (S_lt 17 (by decide)) (S_17 nw nx g) (by decide) hv.1 rfl ?_
    replace hv := hv.2
    refine sw_lastN i (dX3_bring.at 37 rfl) (S_lt 16 (by decide)) (S_16 nw nx g) (by decide) hv.1 ?_
    replace hv := hv.2
    refine sw_iinc (lo' := [some (vr (15)), some (vi (((q0 : Nat) : Int))), some (vi (((i + 1 : Nat) : Int)))]) (dX3_bring.at 38 rfl) rfl (by decide) rfl ?_
    refine sw_goto (tgt := 34) (dX3_bring.at 39 rfl) (by decide) ?_
    exact hv

set_option maxHeartbeats 2000000 in
theorem lp_X3_bring_34 {G : GG} {j nw nx gn : Nat} {g : Nat → Sh} {c : Nat → Nat → Int} {post : Option AV → AM → Prop} {A q0 : Nat} (hA : c 15 5 = ((A : Nat) : Int)) (hq : q0 < 3) (hA30 : A ≤ 30) (K : post (some (vi (bz true))) (S nw nx g, 78 + gn, cpB c q0 A)) : ∀ k i : Nat, i + k = A → SW G (j + 0) mX3_bring 34 [some (vr (15)), some (vi (((q0 : Nat) : Int))), some (vi (((i : Nat) : Int)))] [] (S nw nx g, 78 + gn, cpB c q0 i) B0 post := by
  intro k
  induction k with
  | zero =>
    intro i hi
    have e : i = A := by omega
    subst e
    refine g_X3_bring_34 (A := i) ((cpB_off c q0 i 15 5 (by decide)).trans hA) ?_
    refine ⟨?_, ?_, ⟨fun q => ?_, fun q => ⟨?_, ⟨?_, ?_⟩⟩⟩⟩
    all_goals first | exact K | omega | (exfalso; omega)
  | succ k ih =>
    intro i hi
    refine g_X3_bring_34 (A := A) ((cpB_off c q0 i 15 5 (by decide)).trans hA) ?_
    have h := ih (i + 1) (by omega)
    rw [cpB, ← cpB_off c q0 i 17 (q0 * 30 + i) (by decide)] at h
    refine ⟨?_, ?_, ⟨fun q => ?_, fun q => ⟨?_, ⟨?_, ?_⟩⟩⟩⟩
    all_goals first | exact h | omega | (exfalso; omega)

set_option maxHeartbeats 2000000 in
set_option maxRecDepth 20000 in
theorem g_X3_bring_0 {G : GG} {j nw nx gn : Nat} {g : Nat → Sh} {c : Nat → Nat → Int} {post : Option AV → AM → Prop} {q0 : Nat}  (hv : (q0 < 3) ∧ ((-2147483648 ≤ c 19 q0 ∧ c 19 q0 < 2147483648) ∧ (((c 19 q0 ≠ (-1)) → (q0 < 3) ∧ ((q0 < 3) ∧ (SW G (j + 0) mX3_bring 34 [some (vr (15)), some (vi (((q0 : Nat) : Int))), some (vi (0))] [] (S nw nx g, 78 + gn, (up2 (up2 c 15 4 (c 18 q0)) 15 5 ((up2 c 15 4 (c 18 q0)) 19 q0))) B0 post))) ∧ ((c 19 q0 = (-1)) → post (some (vi (0))) (S nw nx g, 78 + gn, c))))) :
    SW G (j + 0) mX3_bring 0 [some (vr (15)), some (vi (((q0 : Nat) : Int))), none] [] (S nw nx g, 78 + gn, c) B0 post := by
  refine sw_aload_n (dX3_bring.at 0 rfl) rfl rfl ?_
  refine sw_getR (dX3_bring.at 1 rfl) fp_X3_21 (S_lt 15 (by decide)) (S_15 nw nx g) rfl rfl ?_
  refine sw_iload_n (dX3_bring.at 2 rfl) rfl rfl ?_
  refine sw_ialdN q0 (dX3_bring.at 3 rfl) (S_lt 19 (by decide)) (S_19 nw nx g) (by decide) hv.1 rfl ?_
  replace hv := hv.2
  refine sw_iconst (dX3_bring.at 4 rfl) ?_
  refine sw_icmp_ne (tgt := 12) (dX3_bring.at 5 rfl) (by decide) hv.1 (by decide) (fun q => ?_) (fun q => ?_)
  · replace hv := hv.2.1 q
    refine sw_aload_n (dX3_bring.at 8 rfl) rfl rfl ?_
    refine sw_aload_n (dX3_bring.at 9 rfl) rfl rfl ?_
    refine sw_getR (dX3_bring.at 10 rfl) fp_X3_18 (S_lt 15 (by decide)) (S_15 nw nx g) rfl rfl ?_
    refine sw_iload_n (dX3_bring.at 11 rfl) rfl rfl ?_
    refine sw_laldN q0 (dX3_bring.at 12 rfl) (S_lt 18 (by decide)) (S_18 nw nx g) (by decide) hv.1 rfl ?_
    replace hv := hv.2
    refine sw_putL (dX3_bring.at 13 rfl) fp_X3_28 (S_lt 15 (by decide)) (S_15 nw nx g) rfl ?_
    refine sw_aload_n (dX3_bring.at 14 rfl) rfl rfl ?_
    refine sw_aload_n (dX3_bring.at 15 rfl) rfl rfl ?_
    refine sw_getR (dX3_bring.at 16 rfl) fp_X3_21 (S_lt 15 (by decide)) (S_15 nw nx g) rfl rfl ?_
    refine sw_iload_n (dX3_bring.at 17 rfl) rfl rfl ?_
    refine sw_ialdN q0 (dX3_bring.at 18 rfl) (S_lt 19 (by decide)) (S_19 nw nx g) (by decide) hv.1 rfl ?_
    replace hv := hv.2
    refine sw_putI (dX3_bring.at 19 rfl) fp_X3_32 (S_lt 15 (by decide)) (S_15 nw nx g) rfl ?_
    refine sw_iconst (dX3_bring.at 20 rfl) ?_
    refine sw_istore_n (lo' := [some (vr (15)), some (vi (((q0 : Nat) : Int))), some (vi (0))]) (dX3_bring.at 21 rfl) rfl (by decide) rfl ?_
    exact hv
  · replace hv := hv.2.2 q
    refine sw_iconst (dX3_bring.at 6 rfl) ?_
    exact sw_zret (dX3_bring.at 7 rfl) rfl (by decide) (Nat.le_refl _) (Nat.le_refl _) hv

set_option maxHeartbeats 2000000 in
theorem c_X3_bringN {G : GG} {j nw nx gn : Nat} {g : Nat → Sh} {c : Nat → Nat → Int} {post : Option AV → AM → Prop} {q0 : Nat} (p1 : q0 < 3) (p2 : c 19 q0 = -1) (K : post (some (vi (bz (false)))) (S nw nx g, 78 + gn, c)) : SM G (j + 1) mX3_bring [vr (15), vi (((q0 : Nat) : Int))] (S nw nx g, 78 + gn, c) 0 0 post := by
  refine sm_of wX3_bring rfl (Nat.le_of_ble_eq_true rfl) ?_
  refine g_X3_bring_0 ?_
  refine ⟨?_, ⟨?_, ⟨fun q => ⟨?_, ⟨?_, ?_⟩⟩, fun q => ?_⟩⟩⟩
  all_goals first | exact K | omega | (exfalso; omega)

set_option maxHeartbeats 2000000 in
theorem c_X3_bringY {G : GG} {j nw nx gn : Nat} {g : Nat → Sh} {c : Nat → Nat → Int} {post : Option AV → AM → Prop} {A2 : Nat} {q0 : Nat} (hI : c 19 q0 = ((A2 : Nat) : Int)) (p1 : q0 < 3) (p2 : A2 ≤ 30) (K : post (some (vi (bz (true)))) (S nw nx g, 78 + gn, (m_bring c A2 q0))) : SM G (j + 1) mX3_bring [vr (15), vi (((q0 : Nat) : Int))] (S nw nx g, 78 + gn, c) 0 0 post := by
  refine sm_of wX3_bring rfl (Nat.le_of_ble_eq_true rfl) ?_
  refine g_X3_bring_0 ?_
  have e : up2 c 15 4 (c 18 q0) 19 q0 = ((A2 : Nat) : Int) := by rw [up2_ne (Or.inl (by decide))]; exact hI
  refine ⟨?_, ⟨?_, ⟨fun q => ⟨?_, ⟨?_, ?_⟩⟩, fun q => ?_⟩⟩⟩
  all_goals first | omega | (rw [e]; exact lp_X3_bring_34 (A := A2) (up2_eq _ _ _ _) p1 p2 K A2 0 (by omega))

