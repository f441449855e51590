set_option maxHeartbeats 2000000 in
set_option maxRecDepth 20000 in
theorem g_X3_takeAllBack_0 {G : GG} {j nw nx gn : Nat} {g : Nat → Sh} {c : Nat → Nat → Int} {post : Option AV → AM → Prop}  (hv : post none (S nw nx g, 78 + gn, (up2 (up2 c 15 4 0) 15 5 0))) :
    SW G (j + 0) mX3_takeAllBack 0 [some (vr (15))] [] (S nw nx g, 78 + gn, c) B0 post := by
  refine sw_aload_n (dX3_takeAllBack.at 0 rfl) rfl rfl ?_
  refine sw_lconst (z := 0) (dX3_takeAllBack.at 1 rfl) (by decide) ?_
  refine sw_putL (dX3_takeAllBack.at 2 rfl) fp_X3_28 (S_lt 15 (by decide)) (S_15 nw nx g) rfl ?_
  refine sw_aload_n (dX3_takeAllBack.at 3 rfl) rfl rfl ?_
  refine sw_iconst (dX3_takeAllBack.at 4 rfl) ?_
  refine sw_putI (dX3_takeAllBack.at 5 rfl) fp_X3_32 (S_lt 15 (by decide)) (S_15 nw nx g) rfl ?_
  exact sw_vret (dX3_takeAllBack.at 6 rfl) rfl (Nat.le_refl _) (Nat.le_refl _) hv

set_option maxHeartbeats 2000000 in
theorem c_X3_takeAllBack {G : GG} {j nw nx gn : Nat} {g : Nat → Sh} {c : Nat → Nat → Int} {post : Option AV → AM → Prop} (K : post none (S nw nx g, 78 + gn, (up2 (up2 c 15 4 0) 15 5 0))) : SM G (j + 1) mX3_takeAllBack [vr (15)] (S nw nx g, 78 + gn, c) 0 0 post := by
  refine sm_of wX3_takeAllBack rfl (Nat.le_of_ble_eq_true rfl) ?_
  refine g_X3_takeAllBack_0  ?_
  exact K

set_option maxHeartbeats 2000000 in
set_option maxRecDepth 20000 in
theorem g_X3_reset_0 {G : GG} {j nw nx gn : Nat} {g : Nat → Sh} {c : Nat → Nat → Int} {post : Option AV → AM → Prop}  (hv : post none (S nw nx g, 78 + gn, (up2 (up2 (up2 (up2 (up2 c 15 4 0) 15 5 0) 19 0 (-1)) 19 1 (-1)) 19 2 (-1)))) :
    SW G (j + 0) mX3_reset 0 [some (vr (15)), none] [] (S nw nx g, 78 + gn, c) B0 post := by
  refine sw_aload_n (dX3_reset.at 0 rfl) rfl rfl ?_
  refine sw_lconst (z := 0) (dX3_reset.at 1 rfl) (by decide) ?_
  refine sw_putL (dX3_reset.at 2 rfl) fp_X3_28 (S_lt 15 (by decide)) (S_15 nw nx g) rfl ?_
  refine sw_aload_n (dX3_reset.at 3 rfl) rfl rfl ?_
  refine sw_iconst (dX3_reset.at 4 rfl) ?_
  refine sw_putI (dX3_reset.at 5 rfl) fp_X3_32 (S_lt 15 (by decide)) (S_15 nw nx g) rfl ?_
  refine sw_iconst (dX3_reset.at 6 rfl) ?_
  refine sw_istore_n (lo' := [some (vr (15)), some (vi (0))]) (dX3_reset.at 7 rfl) rfl (by decide) rfl ?_
  refine sw_iload_n (dX3_reset.at 8 rfl) rfl rfl ?_
  refine sw_iconst (dX3_reset.at 9 rfl) ?_
  refine sw_icmp_ge (tgt := 30) (dX3_reset.at 10 rfl) (by decide) (by decide) (by decide) (fun q => ?_) (fun q => ?_)
  · exact absurd q (by decide)
  · clear q
    refine sw_aload_n (dX3_reset.at 11 rfl) rfl rfl ?_
    refine sw_getR (dX3_reset.at 12 rfl) fp_X3_21 (S_lt 15 (by decide)) (S_15 nw nx g) rfl rfl ?_
    refine sw_iload_n (dX3_reset.at 13 rfl) rfl rfl ?_
    refine sw_iconst (dX3_reset.at 14 rfl) ?_
    refine sw_iastN 0 (dX3_reset.at 15 rfl) (S_lt 19 (by decide)) (S_19 nw nx g) (by decide) (by decide) ?_
    refine sw_iinc (lo' := [some (vr (15)), some (vi (1))]) (dX3_reset.at 16 rfl) rfl (by decide) rfl ?_
    refine sw_goto (tgt := 12) (dX3_reset.at 17 rfl) (by decide) ?_
    refine sw_iload_n (dX3_reset.at 8 rfl) rfl rfl ?_
    refine sw_iconst (dX3_reset.at 9 rfl) ?_
    refine sw_icmp_ge (tgt := 30) (dX3_reset.at 10 rfl) (by decide) (by decide) (by decide) (fun q => ?_) (fun q => ?_)
    · exact absurd q (by decide)
    · clear q
      refine sw_aload_n (dX3_reset.at 11 rfl) rfl rfl ?_
      refine sw_getR (dX3_reset.at 12 rfl) fp_X3_21 (S_lt 15 (by decide)) (S_15 nw nx g) rfl rfl ?_
      refine sw_iload_n (dX3_reset.at 13 rfl) rfl rfl ?_
      refine sw_iconst (dX3_reset.at 14 rfl) ?_
      refine sw_iastN 1 (dX3_reset.at 15 rfl) (S_lt 19 (by decide)) (S_19 nw nx g) (by decide) (by decide) ?_
      refine sw_iinc (lo' := [some (vr (15)), some (vi (2))]) (dX3_reset.at 16 rfl) rfl (by decide) rfl ?_
      refine sw_goto (tgt := 12) (dX3_reset.at 17 rfl) (by decide) ?_
      refine sw_iload_n (dX3_reset.at 8 rfl) rfl rfl ?_
      refine sw_iconst (dX3_reset.at 9 rfl) ?_
      refine sw_icmp_ge (tgt := 30) (dX3_reset.at 10 rfl) (by decide) (by decide) (by decide) (fun q => ?_) (fun q => ?_)
      · exact absurd q (by decide)
      · clear q
        refine sw_aload_n (dX3_reset.at 11 rfl) rfl rfl ?_
        refine sw_getR (dX3_reset.at 12 rfl) fp_X3_21 (S_lt 15 (by decide)) (S_15 nw nx g) rfl rfl ?_
        refine sw_iload_n (dX3_reset.at 13 rfl) rfl rfl ?_
        refine sw_iconst (dX3_reset.at 14 rfl) ?_
        refine sw_iastN 2 (dX3_reset.at 15 rfl) (S_lt 19 (by decide)) (S_19 nw nx g) (by decide) (by decide) ?_
        refine sw_iinc (lo' := [some (vr (15)), some (vi (3))]) (dX3_reset.at 16 rfl) rfl (by decide) rfl ?_
        refine sw_goto (tgt := 12) (dX3_reset.at 17 rfl) (by decide) ?_
        refine sw_iload_n (dX3_reset.at 8 rfl) rfl rfl ?_
        refine sw_iconst (dX3_reset.at 9 rfl) ?_
        refine sw_icmp_ge (tgt := 30) (dX3_reset.at 10 rfl) (by decide) (by decide) (by decide) (fun q => ?_) (fun q => ?_)
        · clear q
          exact sw_vret (dX3_reset.at 18 rfl) rfl (Nat.le_refl _) (Nat.le_refl _) hv
        · exact absurd q (by decide)

set_option maxHeartbeats 2000000 in
theorem c_X3_reset {G : GG} {j nw nx gn : Nat} {g : Nat → Sh} {c : Nat → Nat → Int} {post : Option AV → AM → Prop} (K : post none (S nw nx g, 78 + gn, (up2 (up2 (up2 (up2 (up2 c 15 4 0) 15 5 0) 19 0 (-1)) 19 1 (-1)) 19 2 (-1)))) : SM G (j + 1) mX3_reset [vr (15)] (S nw nx g, 78 + gn, c) 0 0 post := by
  refine sm_of wX3_reset rfl (Nat.le_of_ble_eq_true rfl) ?_
  refine g_X3_reset_0  ?_
  exact K

set_option maxHeartbeats 2000000 in
set_option maxRecDepth 20000 in
theorem g_X3_takeBack_0 {G : GG} {j nw nx gn : Nat} {g : Nat → Sh} {c : Nat → Nat → Int} {post : Option AV → AM → Prop} {A : Nat} (hA : c 15 5 = ((A : Nat) : Int))  (hv : (A < 2147483648) ∧ (((A ≠ 0) → (1 ≤ A) ∧ ((A - 1 < 30) ∧ (post (some (vi (1))) (S nw nx g, 78 + gn, (up2 (up2 c 15 5 ((A - 1 : Nat) : Int)) 15 4 ((up2 c 15 5 ((A - 1 : Nat) : Int)) 16 (A - 1))))))) ∧ ((A = 0) → post (some (vi (0))) (S nw nx g, 78 + gn, c)))) :
    SW G (j + 0) mX3_takeBack 0 [some (vr (15))] [] (S nw nx g, 78 + gn, c) B0 post := by
  refine sw_aload_n (dX3_takeBack.at 0 rfl) rfl rfl ?_
  refine sw_getIE (w := ((A : Nat) : Int)) (dX3_takeBack.at 1 rfl) fp_X3_32 (S_lt 15 (by decide)) (S_15 nw nx g) rfl hA ?_
  refine sw_ifN_ne A (tgt := 9) (dX3_takeBack.at 2 rfl) (by decide) hv.1 (fun q => ?_) (fun q => ?_)
  · replace hv := hv.2.1 q
    refine sw_aload_n (dX3_takeBack.at 5 rfl) rfl rfl ?_
    refine sw_dup (dX3_takeBack.at 6 rfl) (fun _ h => by cases h) ?_
    refine sw_getIE (w := ((A : Nat) : Int)) (dX3_takeBack.at 7 rfl) fp_X3_32 (S_lt 15 (by decide)) (S_15 nw nx g) rfl hA ?_
    refine sw_iconst (dX3_takeBack.at 8 rfl) ?_
    refine sw_isub (dX3_takeBack.at 9 rfl) ?_
    refine sw_topI (y := ((A - 1 : Nat) : Int)) (congrArg _ (Int.ofNat_sub hv.1).symm) ?_
    replace hv := hv.2
    refine sw_putI (dX3_takeBack.at 10 rfl) fp_X3_32 (S_lt 15 (by decide)) (S_15 nw nx g) rfl ?_
    refine sw_aload_n (dX3_takeBack.at 11 rfl) rfl rfl ?_
    refine sw_aload_n (dX3_takeBack.at 12 rfl) rfl rfl ?_
    refine sw_getR (dX3_takeBack.at 13 rfl) fp_X3_9 (S_lt 15 (by decide)) (S_15 nw nx g) rfl rfl ?_
    refine sw_aload_n (dX3_takeBack.at 14 rfl) rfl rfl ?_
    refine sw_getIE (w := ((A - 1 : Nat) : Int)) (dX3_takeBack.at 15 rfl) fp_X3_32 (S_lt 15 (by decide)) (S_15 nw nx g) rfl (up2_eq c 15 5 ((A - 1 : Nat) : Int)) ?_
    refine sw_laldN (A - 1) (dX3_takeBack.at 16 rfl) (S_lt 16 (by decide)) (S_16 nw nx g) (by decide) hv.1 rfl ?_
    replace hv := hv.2
    refine sw_putL (dX3_takeBack.at 17 rfl) fp_X3_28 (S_lt 15 (by decide)) (S_15 nw nx g) rfl ?_
    refine sw_iconst (dX3_takeBack.at 18 rfl) ?_
    exact sw_zret (dX3_takeBack.at 19 rfl) rfl (by decide) (Nat.le_refl _) (Nat.le_refl _) hv
  · replace hv := hv.2.2 q
    refine sw_iconst (dX3_takeBack.at 3 rfl) ?_
    exact sw_zret (dX3_takeBack.at 4 rfl) rfl (by decide) (Nat.le_refl _) (Nat.le_refl _) hv

set_option maxHeartbeats 2000000 in
theorem c_X3_takeBackN {G : GG} {j nw nx gn : Nat} {g : Nat → Sh} {c : Nat → Nat → Int} {post : Option AV → AM → Prop} {A : Nat} (hA : c 15 5 = ((A : Nat) : Int)) (p1 : A = 0) (K : post (some (vi (bz (false)))) (S nw nx g, 78 + gn, c)) : SM G (j + 1) mX3_takeBack [vr (15)] (S nw nx g, 78 + gn, c) 0 0 post := by
  refine sm_of wX3_takeBack rfl (Nat.le_of_ble_eq_true rfl) ?_
  refine g_X3_takeBack_0 hA ?_
  refine ⟨?_, ⟨fun q => ⟨?_, ⟨?_, ?_⟩⟩, fun q => ?_⟩⟩
  all_goals first | exact K | omega | (exfalso; omega)

set_option maxHeartbeats 2000000 in
theorem c_X3_takeBackY {G : GG} {j nw nx gn : Nat} {g : Nat → Sh} {c : Nat → Nat → Int} {post : Option AV → AM → Prop} {A : Nat} (hA : c 15 5 = ((A : Nat) : Int)) (p1 : 0 < A) (p2 : A ≤ 30) (K : post (some (vi (bz (true)))) (S nw nx g, 78 + gn, (up2 (up2 c 15 5 ((A - 1 : Nat) : Int)) 15 4 (c 16 (A - 1))))) : SM G (j + 1) mX3_takeBack [vr (15)] (S nw nx g, 78 + gn, c) 0 0 post := by
  refine sm_of wX3_takeBack rfl (Nat.le_of_ble_eq_true rfl) ?_
  refine g_X3_takeBack_0 hA ?_
  rw [show (up2 (up2 c 15 5 ((A - 1 : Nat) : Int)) 15 4 (c 16 (A - 1))) = (up2 (up2 c 15 5 ((A - 1 : Nat) : Int)) 15 4 ((up2 c 15 5 ((A - 1 : Nat) : Int)) 16 (A - 1))) from by rw [up2_ne (c := c) (i := 15) (k := 5) (i' := 16) (Or.inl (by decide))]] at K
  refine ⟨?_, ⟨fun q => ⟨?_, ⟨?_, ?_⟩⟩, fun q => ?_⟩⟩
  all_goals first | exact K | omega | (exfalso; omega)

def cpK (c : Nat → Nat → Int) (q : Nat) : Nat → Nat → Nat → Int
  | 0 => c
  | i + 1 => up2 (cpK c q i) 17 (q * 30 + i) (c 16 i)
theorem cpK_off (c : Nat → Nat → Int) (q : Nat) : ∀ i a k, a ≠ 17 → cpK c q i a k = c a k := by
  intro i
  induction i with
  | zero => intro a k _; rfl
  | succ i ih => intro a k h; rw [cpK, up2_ne (Or.inl h)]; exact ih a k h
def m_keep (c : Nat → Nat → Int) (A q : Nat) : Nat → Nat → Int := cpK (up2 (up2 c 18 q (c 15 4)) 19 q (A : Int)) q A
