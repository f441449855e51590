def osU (st : Nat → Int) (s t : Nat) : Nat → Nat → Nat → Int
  | 0, _, x => ((x : Nat) : Int)
  | k + 1, l, x => if st (x * 5 + l) = -1 then -1 else osU st s t k (s + t - l) (st (x * 5 + l)).toNat
def osD (st : Nat → Int) (le : Nat → Nat) (s t m : Nat) : Nat → Nat → Nat → Int
  | 0, l, f => osU st s t m l f
  | k + 1, l, f => if st (f * 5 + l) = -1 then -1 else if le f < le (st (f * 5 + l)).toNat then -1 else osD st le s t m k (s + t - l) (st (f * 5 + l)).toNat
def oth (st : Nat → Int) (le : Nat → Nat) (m w s t : Nat) : Int := osD st le s t (m - 1) (m - 1) t w

set_option maxHeartbeats 2000000 in
set_option maxRecDepth 20000 in
theorem g_X1_otherSide_0 {G : GG} {j nw nx gn : Nat} {g : Nat → Sh} {c : Nat → Nat → Int} {post : Option AV → AM → Prop} {e : Nat} {w : Nat} {s : Nat} {t : Nat} (he : e = 21 ∨ e = 35) {be : Nat → Nat} {le : Nat → Nat} {hd : Nat → Nat} {ls : Nat → Nat} {st : Nat → Int} {pr : Nat → Nat} {iv : Nat → Nat} {fa : Nat → Nat} {eb : Nat → Nat} {ml : Nat → Nat} {mf : Nat → Int} {rw : Nat → Nat} {dn : Nat → Nat} {rk : Nat} {mn : Nat} {mm : Nat}  (hv : SW G (j + 1) mX1_otherSide 9 [some (vr (e)), none, some (vi (((s : Nat) : Int))), some (vi (((t : Nat) : Int))), some (vi (((w : Nat) : Int))), some (vi (((t : Nat) : Int))), some (vi (1)), none] [] (S nw nx g, 78 + gn, (em c e be le hd ls st pr iv fa eb ml mf rw dn rk mn mm)) B0 post) :
    SW G (j + 1) mX1_otherSide 0 [some (vr (e)), some (vi (((w : Nat) : Int))), some (vi (((s : Nat) : Int))), some (vi (((t : Nat) : Int))), none, none, none, none] [] (S nw nx g, 78 + gn, (em c e be le hd ls st pr iv fa eb ml mf rw dn rk mn mm)) B0 post := by
  refine sw_iload_n (dX1_otherSide_0.at 0 rfl) rfl rfl ?_
  refine sw_istore (lo' := [some (vr (e)), some (vi (((w : Nat) : Int))), some (vi (((s : Nat) : Int))), some (vi (((t : Nat) : Int))), some (vi (((w : Nat) : Int))), none, none, none]) (dX1_otherSide_0.at 1 rfl) (by decide) rfl ?_
  refine sw_iload_n (dX1_otherSide_0.at 2 rfl) rfl rfl ?_
  refine sw_istore (lo' := [some (vr (e)), some (vi (((w : Nat) : Int))), some (vi (((s : Nat) : Int))), some (vi (((t : Nat) : Int))), some (vi (((w : Nat) : Int))), some (vi (((t : Nat) : Int))), none, none]) (dX1_otherSide_0.at 3 rfl) (by decide) rfl ?_
  refine sw_iconst (dX1_otherSide_0.at 4 rfl) ?_
  refine sw_istore (lo' := [some (vr (e)), some (vi (((w : Nat) : Int))), some (vi (((s : Nat) : Int))), some (vi (((t : Nat) : Int))), some (vi (((w : Nat) : Int))), some (vi (((t : Nat) : Int))), some (vi (1)), none]) (dX1_otherSide_0.at 5 rfl) (by decide) rfl ?_
  exact sw_mask (bs := [true, false, true, true, true, true, true, false]) hv

set_option maxHeartbeats 2000000 in
set_option maxRecDepth 20000 in
theorem g_X1_otherSide_9 {G : GG} {j nw nx gn : Nat} {g : Nat → Sh} {c : Nat → Nat → Int} {post : Option AV → AM → Prop} {e : Nat} {s : Nat} {t : Nat} (he : e = 21 ∨ e = 35) {be : Nat → Nat} {le : Nat → Nat} {hd : Nat → Nat} {ls : Nat → Nat} {st : Nat → Int} {pr : Nat → Nat} {iv : Nat → Nat} {fa : Nat → Nat} {eb : Nat → Nat} {ml : Nat → Nat} {mf : Nat → Int} {rw : Nat → Nat} {dn : Nat → Nat} {rk : Nat} {mn : Nat} {mm : Nat} {l : Nat} {f : Nat} {u : Nat}  (hv : (s < 5) ∧ (t < 5) ∧ (s ≠ t) ∧ ((u < 2147483648) ∧ (be (s * 5 + t) < 2147483648) ∧ (((be (s * 5 + t) ≤ u) → SW G (j + 1) mX1_otherSide 80 [some (vr (e)), none, some (vi (((s : Nat) : Int))), some (vi (((t : Nat) : Int))), none, some (vi (((l : Nat) : Int))), some (vi (((f : Nat) : Int))), some (vi (1))] [] (S nw nx g, 78 + gn, (em c e be le hd ls st pr iv fa eb ml mf rw dn rk mn mm)) B0 post) ∧ ((¬ (be (s * 5 + t) ≤ u)) → (STok st mn) ∧ (mn ≤ 60) ∧ (f < mn) ∧ (l < 5) ∧ ((st (f * 5 + l) = -1) → post (some (vi ((-1)))) (S nw nx g, 78 + gn, (em c e be le hd ls st pr iv fa eb ml mf rw dn rk mn mm))) ∧ (∀ (v_1 : Nat), (st (f * 5 + l) = ((v_1 : Nat) : Int) ∧ v_1 < mn) → (v_1 < 2147483648) ∧ (((((v_1 : Nat) : Int) = (-1)) → post (some (vi ((-1)))) (S nw nx g, 78 + gn, (em c e be le hd ls st pr iv fa eb ml mf rw dn rk mn mm))) ∧ ((¬ (((v_1 : Nat) : Int) = (-1))) → (v_1 < 60) ∧ ((f < 60) ∧ ((le v_1 < 2147483648) ∧ (le f < 2147483648) ∧ (((le v_1 ≤ le f) → (l ≤ s + t) ∧ (SW G (j + 1) mX1_otherSide 9 [some (vr (e)), none, some (vi (((s : Nat) : Int))), some (vi (((t : Nat) : Int))), some (vi (((v_1 : Nat) : Int))), some (vi ((((s + t) - l : Nat) : Int))), some (vi (((u + 1 : Nat) : Int))), none] [] (S nw nx g, 78 + gn, (em c e be le hd ls st pr iv fa eb ml mf rw dn rk mn mm)) B0 post)) ∧ ((¬ (le v_1 ≤ le f)) → post (some (vi ((-1)))) (S nw nx g, 78 + gn, (em c e be le hd ls st pr iv fa eb ml mf rw dn rk mn mm))))))))))))) :
    SW G (j + 1) mX1_otherSide 9 [some (vr (e)), none, some (vi (((s : Nat) : Int))), some (vi (((t : Nat) : Int))), some (vi (((f : Nat) : Int))), some (vi (((l : Nat) : Int))), some (vi (((u : Nat) : Int))), none] [] (S nw nx g, 78 + gn, (em c e be le hd ls st pr iv fa eb ml mf rw dn rk mn mm)) B0 post := by
  refine sw_iload (dX1_otherSide_0.at 6 rfl) rfl ?_
  refine sw_aload_n (dX1_otherSide_0.at 7 rfl) rfl rfl ?_
  refine sw_iload_n (dX1_otherSide_0.at 8 rfl) rfl rfl ?_
  refine sw_iload_n (dX1_otherSide_0.at 9 rfl) rfl rfl ?_
  refine sw_callV (B' := B0) (As := [vi (((s : Nat) : Int)), vi (((t : Nat) : Int))]) (mc := 0) (ms := 0) (dX1_otherSide_0.at 10 rfl) lk_X1_107 (S_e_lt he) (S_e he) rfl rfl (Nat.le_of_ble_eq_true rfl) rfl (Nat.le_refl _) (Nat.le_refl _) ?_
  refine c_X1_turnsE (x := s) (y := t) (j := j + 0) he hv.1 hv.2.1 hv.2.2.1 ?_
  replace hv := hv.2.2.2
  refine sw_icmpN_ge u (be (s * 5 + t)) (tgt := 73) (dX1_otherSide_0.at 11 rfl) (by decide) hv.1 hv.2.1 (fun q => ?_) (fun q => ?_)
  · replace hv := hv.2.2.1 q
    refine sw_iload (dX1_otherSide_0.at 41 rfl) rfl ?_
    refine sw_istore (lo' := [some (vr (e)), none, some (vi (((s : Nat) : Int))), some (vi (((t : Nat) : Int))), some (vi (((f : Nat) : Int))), some (vi (((l : Nat) : Int))), some (vi (((f : Nat) : Int))), none]) (dX1_otherSide_0.at 42 rfl) (by decide) rfl ?_
    refine sw_iconst (dX1_otherSide_0.at 43 rfl) ?_
    refine sw_istore (lo' := [some (vr (e)), none, some (vi (((s : Nat) : Int))), some (vi (((t : Nat) : Int))), some (vi (((f : Nat) : Int))), some (vi (((l : Nat) : Int))), some (vi (((f : Nat) : Int))), some (vi (1))]) (dX1_otherSide_0.at 44 rfl) (by decide) rfl ?_
    exact sw_mask (bs := [true, false, true, true, false, true, true, true]) hv
  · replace hv := hv.2.2.2 q
    refine sw_aload_n (dX1_otherSide_0.at 12 rfl) rfl rfl ?_
    refine sw_iload (dX1_otherSide_0.at 13 rfl) rfl ?_
    refine sw_iload (dX1_otherSide_0.at 14 rfl) rfl ?_
    refine sw_callV (B' := B0) (As := [vi (((f : Nat) : Int)), vi (((l : Nat) : Int))]) (mc := 0) (ms := 0) (dX1_otherSide_0.at 15 rfl) lk_X1_92 (S_e_lt he) (S_e he) rfl rfl (Nat.le_of_ble_eq_true rfl) rfl (Nat.le_refl _) (Nat.le_refl _) ?_
    refine c_X1_byE (x := f) (s := l) (j := j + 0) he hv.1 hv.2.1 hv.2.2.1 hv.2.2.2.1 (fun q => ?_) (fun v_1 q2 => ?_) 
    · replace hv := hv.2.2.2.2.1 q
      refine sw_istore (lo' := [some (vr (e)), none, some (vi (((s : Nat) : Int))), some (vi (((t : Nat) : Int))), some (vi (((f : Nat) : Int))), some (vi (((l : Nat) : Int))), some (vi (((u : Nat) : Int))), some (vi ((-1)))]) (dX1_otherSide_0.at 16 rfl) (by decide) rfl ?_
      refine sw_iload (dX1_otherSide_0.at 17 rfl) rfl ?_
      refine sw_iconst (dX1_otherSide_0.at 18 rfl) ?_
      refine sw_icmp_eq (tgt := 53) (dX1_otherSide_0.at 19 rfl) (by decide) (by decide) (by decide) (fun q => ?_) (fun q => ?_)
      · clear q
        refine sw_iconst (dX1_otherSide_0.at 29 rfl) ?_
        exact sw_iret (dX1_otherSide_0.at 30 rfl) rfl (Nat.le_refl _) (Nat.le_refl _) hv
      · exact absurd q (by decide)
    · replace hv := hv.2.2.2.2.2 v_1 q2
      refine sw_istore (lo' := [some (vr (e)), none, some (vi (((s : Nat) : Int))), some (vi (((t : Nat) : Int))), some (vi (((f : Nat) : Int))), some (vi (((l : Nat) : Int))), some (vi (((u : Nat) : Int))), some (vi (((v_1 : Nat) : Int)))]) (dX1_otherSide_0.at 16 rfl) (by decide) rfl ?_
      refine sw_iload (dX1_otherSide_0.at 17 rfl) rfl ?_
      refine sw_iconst (dX1_otherSide_0.at 18 rfl) ?_
      refine sw_icmp_eq (tgt := 53) (dX1_otherSide_0.at 19 rfl) (by decide) (nrng hv.1) (by decide) (fun q => ?_) (fun q => ?_)
      · replace hv := hv.2.1 q
        refine sw_iconst (dX1_otherSide_0.at 29 rfl) ?_
        exact sw_iret (dX1_otherSide_0.at 30 rfl) rfl (Nat.le_refl _) (Nat.le_refl _) hv
      · replace hv := hv.2.2 q
        refine sw_aload_n (dX1_otherSide_0.at 20 rfl) rfl rfl ?_
        refine sw_getR (dX1_otherSide_0.at 21 rfl) fp_X1_15 (S_e_lt he) (S_e he) rfl rfl ?_
        refine sw_iload (dX1_otherSide_0.at 22 rfl) rfl ?_
        refine sw_ialdN v_1 (w := ((le v_1 : Nat) : Int)) (dX1_otherSide_0.at 23 rfl) (S_ek_lt he (by decide)) (S_e_2 he) (by decide) hv.1 em_r2 ?_
        replace hv := hv.2
        refine sw_aload_n (dX1_otherSide_0.at 24 rfl) rfl rfl ?_
        refine sw_getR (dX1_otherSide_0.at 25 rfl) fp_X1_15 (S_e_lt he) (S_e he) rfl rfl ?_
        refine sw_iload (dX1_otherSide_0.at 26 rfl) rfl ?_
        refine sw_ialdN f (w := ((le f : Nat) : Int)) (dX1_otherSide_0.at 27 rfl) (S_ek_lt he (by decide)) (S_e_2 he) (by decide) hv.1 em_r2 ?_
        replace hv := hv.2
        refine sw_icmpN_le (le v_1) (le f) (tgt := 55) (dX1_otherSide_0.at 28 rfl) (by decide) hv.1 hv.2.1 (fun q => ?_) (fun q => ?_)
        · replace hv := hv.2.2.1 q
          refine sw_iload (dX1_otherSide_0.at 31 rfl) rfl ?_
          refine sw_istore (lo' := [some (vr (e)), none, some (vi (((s : Nat) : Int))), some (vi (((t : Nat) : Int))), some (vi (((v_1 : Nat) : Int))), some (vi (((l : Nat) : Int))), some (vi (((u : Nat) : Int))), some (vi (((v_1 : Nat) : Int)))]) (dX1_otherSide_0.at 32 rfl) (by decide) rfl ?_
          refine sw_iload_n (dX1_otherSide_0.at 33 rfl) rfl rfl ?_
          refine sw_iload_n (dX1_otherSide_0.at 34 rfl) rfl rfl ?_
          refine sw_iadd (dX1_otherSide_0.at 35 rfl) ?_
          refine sw_topI (y := ((s + t : Nat) : Int)) (by first | rfl | (congr 1)) ?_
          refine sw_iload (dX1_otherSide_0.at 36 rfl) rfl ?_
          refine sw_isub (dX1_otherSide_0.at 37 rfl) ?_
          refine sw_topI (y := (((s + t) - l : Nat) : Int)) (congrArg _ (Int.ofNat_sub hv.1).symm) ?_
          replace hv := hv.2
          refine sw_istore (lo' := [some (vr (e)), none, some (vi (((s : Nat) : Int))), some (vi (((t : Nat) : Int))), some (vi (((v_1 : Nat) : Int))), some (vi ((((s + t) - l : Nat) : Int))), some (vi (((u : Nat) : Int))), some (vi (((v_1 : Nat) : Int)))]) (dX1_otherSide_0.at 38 rfl) (by decide) rfl ?_
          refine sw_iinc (lo' := [some (vr (e)), none, some (vi (((s : Nat) : Int))), some (vi (((t : Nat) : Int))), some (vi (((v_1 : Nat) : Int))), some (vi ((((s + t) - l : Nat) : Int))), some (vi (((u + 1 : Nat) : Int))), some (vi (((v_1 : Nat) : Int)))]) (dX1_otherSide_0.at 39 rfl) rfl (by decide) rfl ?_
          refine sw_goto (tgt := 9) (dX1_otherSide_0.at 40 rfl) (by decide) ?_
          exact sw_mask (bs := [true, false, true, true, true, true, true, false]) hv
        · replace hv := hv.2.2.2 q
          refine sw_iconst (dX1_otherSide_0.at 29 rfl) ?_
          exact sw_iret (dX1_otherSide_0.at 30 rfl) rfl (Nat.le_refl _) (Nat.le_refl _) hv

set_option maxHeartbeats 2000000 in
set_option maxRecDepth 20000 in
theorem g_X1_otherSide_80 {G : GG} {j nw nx gn : Nat} {g : Nat → Sh} {c : Nat → Nat → Int} {post : Option AV → AM → Prop} {e : Nat} {s : Nat} {t : Nat} (he : e = 21 ∨ e = 35) {be : Nat → Nat} {le : Nat → Nat} {hd : Nat → Nat} {ls : Nat → Nat} {st : Nat → Int} {pr : Nat → Nat} {iv : Nat → Nat} {fa : Nat → Nat} {eb : Nat → Nat} {ml : Nat → Nat} {mf : Nat → Int} {rw : Nat → Nat} {dn : Nat → Nat} {rk : Nat} {mn : Nat} {mm : Nat} {l : Nat} {xx : Nat} {u : Nat}  (hv : (s < 5) ∧ (t < 5) ∧ (s ≠ t) ∧ ((u < 2147483648) ∧ (be (s * 5 + t) < 2147483648) ∧ (((be (s * 5 + t) ≤ u) → post (some (vi (((xx : Nat) : Int)))) (S nw nx g, 78 + gn, (em c e be le hd ls st pr iv fa eb ml mf rw dn rk mn mm))) ∧ ((¬ (be (s * 5 + t) ≤ u)) → (xx < 2147483648) ∧ (((((xx : Nat) : Int) = (-1)) → post (some (vi (((xx : Nat) : Int)))) (S nw nx g, 78 + gn, (em c e be le hd ls st pr iv fa eb ml mf rw dn rk mn mm))) ∧ ((¬ (((xx : Nat) : Int) = (-1))) → (STok st mn) ∧ (mn ≤ 60) ∧ (xx < mn) ∧ (l < 5) ∧ ((st (xx * 5 + l) = -1) → (l ≤ s + t) ∧ (SW G (j + 1) mX1_otherSide 80 [some (vr (e)), none, some (vi (((s : Nat) : Int))), some (vi (((t : Nat) : Int))), none, some (vi ((((s + t) - l : Nat) : Int))), some (vi ((-1))), some (vi (((u + 1 : Nat) : Int)))] [] (S nw nx g, 78 + gn, (em c e be le hd ls st pr iv fa eb ml mf rw dn rk mn mm)) B0 post)) ∧ (∀ (v_1 : Nat), (st (xx * 5 + l) = ((v_1 : Nat) : Int) ∧ v_1 < mn) → (l ≤ s + t) ∧ (SW G (j + 1) mX1_otherSide 80 [some (vr (e)), none, some (vi (((s : Nat) : Int))), some (vi (((t : Nat) : Int))), none, some (vi ((((s + t) - l : Nat) : Int))), some (vi (((v_1 : Nat) : Int))), some (vi (((u + 1 : Nat) : Int)))] [] (S nw nx g, 78 + gn, (em c e be le hd ls st pr iv fa eb ml mf rw dn rk mn mm)) B0 post)))))))) :
    SW G (j + 1) mX1_otherSide 80 [some (vr (e)), none, some (vi (((s : Nat) : Int))), some (vi (((t : Nat) : Int))), none, some (vi (((l : Nat) : Int))), some (vi (((xx : Nat) : Int))), some (vi (((u : Nat) : Int)))] [] (S nw nx g, 78 + gn, (em c e be le hd ls st pr iv fa eb ml mf rw dn rk mn mm)) B0 post := by
  refine sw_iload (dX1_otherSide_0.at 45 rfl) rfl ?_
  refine sw_aload_n (dX1_otherSide_0.at 46 rfl) rfl rfl ?_
  refine sw_iload_n (dX1_otherSide_0.at 47 rfl) rfl rfl ?_
  refine sw_iload_n (dX1_otherSide_0.at 48 rfl) rfl rfl ?_
  refine sw_callV (B' := B0) (As := [vi (((s : Nat) : Int)), vi (((t : Nat) : Int))]) (mc := 0) (ms := 0) (dX1_otherSide_0.at 49 rfl) lk_X1_107 (S_e_lt he) (S_e he) rfl rfl (Nat.le_of_ble_eq_true rfl) rfl (Nat.le_refl _) (Nat.le_refl _) ?_
  refine c_X1_turnsE (x := s) (y := t) (j := j + 0) he hv.1 hv.2.1 hv.2.2.1 ?_
  replace hv := hv.2.2.2
  refine sw_icmpN_ge u (be (s * 5 + t)) (tgt := 121) (dX1_otherSide_1.at 0 rfl) (by decide) hv.1 hv.2.1 (fun q => ?_) (fun q => ?_)
  · replace hv := hv.2.2.1 q
    refine sw_iload (dX1_otherSide_1.at 17 rfl) rfl ?_
    exact sw_iret (dX1_otherSide_1.at 18 rfl) rfl (Nat.le_refl _) (Nat.le_refl _) hv
  · replace hv := hv.2.2.2 q
    refine sw_iload (dX1_otherSide_1.at 1 rfl) rfl ?_
    refine sw_iconst (dX1_otherSide_1.at 2 rfl) ?_
    refine sw_icmp_eq (tgt := 121) (dX1_otherSide_1.at 3 rfl) (by decide) (nrng hv.1) (by decide) (fun q => ?_) (fun q => ?_)
    · replace hv := hv.2.1 q
      refine sw_iload (dX1_otherSide_1.at 17 rfl) rfl ?_
      exact sw_iret (dX1_otherSide_1.at 18 rfl) rfl (Nat.le_refl _) (Nat.le_refl _) hv
    · replace hv := hv.2.2 q
      refine sw_aload_n (dX1_otherSide_1.at 4 rfl) rfl rfl ?_
      refine sw_iload (dX1_otherSide_1.at 5 rfl) rfl ?_
      refine sw_iload (dX1_otherSide_1.at 6 rfl) rfl ?_
      refine sw_callV (B' := B0) (As := [vi (((xx : Nat) : Int)), vi (((l : Nat) : Int))]) (mc := 0) (ms := 0) (dX1_otherSide_1.at 7 rfl) lk_X1_92 (S_e_lt he) (S_e he) rfl rfl (Nat.le_of_ble_eq_true rfl) rfl (Nat.le_refl _) (Nat.le_refl _) ?_
      refine c_X1_byE (x := xx) (s := l) (j := j + 0) he hv.1 hv.2.1 hv.2.2.1 hv.2.2.2.1 (fun q => ?_) (fun v_1 q2 => ?_) 
      · replace hv := hv.2.2.2.2.1 q
        refine sw_istore (lo' := [some (vr (e)), none, some (vi (((s : Nat) : Int))), some (vi (((t : Nat) : Int))), none, some (vi (((l : Nat) : Int))), some (vi ((-1))), some (vi (((u : Nat) : Int)))]) (dX1_otherSide_1.at 8 rfl) (by decide) rfl ?_
        refine sw_iload_n (dX1_otherSide_1.at 9 rfl) rfl rfl ?_
        refine sw_iload_n (dX1_otherSide_1.at 10 rfl) rfl rfl ?_
        refine sw_iadd (dX1_otherSide_1.at 11 rfl) ?_
        refine sw_topI (y := ((s + t : Nat) : Int)) (by first | rfl | (congr 1)) ?_
        refine sw_iload (dX1_otherSide_1.at 12 rfl) rfl ?_
        refine sw_isub (dX1_otherSide_1.at 13 rfl) ?_
        refine sw_topI (y := (((s + t) - l : Nat) : Int)) (congrArg _ (Int.ofNat_sub hv.1).symm) ?_
        replace hv := hv.2
        refine sw_istore (lo' := [some (vr (e)), none, some (vi (((s : Nat) : Int))), some (vi (((t : Nat) : Int))), none, some (vi ((((s + t) - l : Nat) : Int))), some (vi ((-1))), some (vi (((u : Nat) : Int)))]) (dX1_otherSide_1.at 14 rfl) (by decide) rfl ?_
        refine sw_iinc (lo' := [some (vr (e)), none, some (vi (((s : Nat) : Int))), some (vi (((t : Nat) : Int))), none, some (vi ((((s + t) - l : Nat) : Int))), some (vi ((-1))), some (vi (((u + 1 : Nat) : Int)))]) (dX1_otherSide_1.at 15 rfl) rfl (by decide) rfl ?_
        refine sw_goto (tgt := 80) (dX1_otherSide_1.at 16 rfl) (by decide) ?_
        exact hv
      · replace hv := hv.2.2.2.2.2 v_1 q2
        refine sw_istore (lo' := [some (vr (e)), none, some (vi (((s : Nat) : Int))), some (vi (((t : Nat) : Int))), none, some (vi (((l : Nat) : Int))), some (vi (((v_1 : Nat) : Int))), some (vi (((u : Nat) : Int)))]) (dX1_otherSide_1.at 8 rfl) (by decide) rfl ?_
        refine sw_iload_n (dX1_otherSide_1.at 9 rfl) rfl rfl ?_
        refine sw_iload_n (dX1_otherSide_1.at 10 rfl) rfl rfl ?_
        refine sw_iadd (dX1_otherSide_1.at 11 rfl) ?_
        refine sw_topI (y := ((s + t : Nat) : Int)) (by first | rfl | (congr 1)) ?_
        refine sw_iload (dX1_otherSide_1.at 12 rfl) rfl ?_
        refine sw_isub (dX1_otherSide_1.at 13 rfl) ?_
        refine sw_topI (y := (((s + t) - l : Nat) : Int)) (congrArg _ (Int.ofNat_sub hv.1).symm) ?_
        replace hv := hv.2
        refine sw_istore (lo' := [some (vr (e)), none, some (vi (((s : Nat) : Int))), some (vi (((t : Nat) : Int))), none, some (vi ((((s + t) - l : Nat) : Int))), some (vi (((v_1 : Nat) : Int))), some (vi (((u : Nat) : Int)))]) (dX1_otherSide_1.at 14 rfl) (by decide) rfl ?_
        refine sw_iinc (lo' := [some (vr (e)), none, some (vi (((s : Nat) : Int))), some (vi (((t : Nat) : Int))), none, some (vi ((((s + t) - l : Nat) : Int))), some (vi (((v_1 : Nat) : Int))), some (vi (((u + 1 : Nat) : Int)))]) (dX1_otherSide_1.at 15 rfl) rfl (by decide) rfl ?_
        refine sw_goto (tgt := 80) (dX1_otherSide_1.at 16 rfl) (by decide) ?_
        exact hv

set_option maxHeartbeats 2000000 in
set_option maxRecDepth 20000 in
theorem g_X1_otherSide_80m {G : GG} {j nw nx gn : Nat} {g : Nat → Sh} {c : Nat → Nat → Int} {post : Option AV → AM → Prop} {e : Nat} {s : Nat} {t : Nat} (he : e = 21 ∨ e = 35) {be : Nat → Nat} {le : Nat → Nat} {hd : Nat → Nat} {ls : Nat → Nat} {st : Nat → Int} {pr : Nat → Nat} {iv : Nat → Nat} {fa : Nat → Nat} {eb : Nat → Nat} {ml : Nat → Nat} {mf : Nat → Int} {rw : Nat → Nat} {dn : Nat → Nat} {rk : Nat} {mn : Nat} {mm : Nat} {l : Nat} {u : Nat}  (hv : (s < 5) ∧ (t < 5) ∧ (s ≠ t) ∧ ((u < 2147483648) ∧ (be (s * 5 + t) < 2147483648) ∧ (((be (s * 5 + t) ≤ u) → post (some (vi ((-1)))) (S nw nx g, 78 + gn, (em c e be le hd ls st pr iv fa eb ml mf rw dn rk mn mm))) ∧ ((¬ (be (s * 5 + t) ≤ u)) → post (some (vi ((-1)))) (S nw nx g, 78 + gn, (em c e be le hd ls st pr iv fa eb ml mf rw dn rk mn mm)))))) :
    SW G (j + 1) mX1_otherSide 80 [some (vr (e)), none, some (vi (((s : Nat) : Int))), some (vi (((t : Nat) : Int))), none, some (vi (((l : Nat) : Int))), some (vi ((-1))), some (vi (((u : Nat) : Int)))] [] (S nw nx g, 78 + gn, (em c e be le hd ls st pr iv fa eb ml mf rw dn rk mn mm)) B0 post := by
  refine sw_iload (dX1_otherSide_0.at 45 rfl) rfl ?_
  refine sw_aload_n (dX1_otherSide_0.at 46 rfl) rfl rfl ?_
  refine sw_iload_n (dX1_otherSide_0.at 47 rfl) rfl rfl ?_
  refine sw_iload_n (dX1_otherSide_0.at 48 rfl) rfl rfl ?_
  refine sw_callV (B' := B0) (As := [vi (((s : Nat) : Int)), vi (((t : Nat) : Int))]) (mc := 0) (ms := 0) (dX1_otherSide_0.at 49 rfl) lk_X1_107 (S_e_lt he) (S_e he) rfl rfl (Nat.le_of_ble_eq_true rfl) rfl (Nat.le_refl _) (Nat.le_refl _) ?_
  refine c_X1_turnsE (x := s) (y := t) (j := j + 0) he hv.1 hv.2.1 hv.2.2.1 ?_
  replace hv := hv.2.2.2
  refine sw_icmpN_ge u (be (s * 5 + t)) (tgt := 121) (dX1_otherSide_1.at 0 rfl) (by decide) hv.1 hv.2.1 (fun q => ?_) (fun q => ?_)
  · replace hv := hv.2.2.1 q
    refine sw_iload (dX1_otherSide_1.at 17 rfl) rfl ?_
    exact sw_iret (dX1_otherSide_1.at 18 rfl) rfl (Nat.le_refl _) (Nat.le_refl _) hv
  · replace hv := hv.2.2.2 q
    refine sw_iload (dX1_otherSide_1.at 1 rfl) rfl ?_
    refine sw_iconst (dX1_otherSide_1.at 2 rfl) ?_
    refine sw_icmp_eq (tgt := 121) (dX1_otherSide_1.at 3 rfl) (by decide) (by decide) (by decide) (fun q => ?_) (fun q => ?_)
    · clear q
      refine sw_iload (dX1_otherSide_1.at 17 rfl) rfl ?_
      exact sw_iret (dX1_otherSide_1.at 18 rfl) rfl (Nat.le_refl _) (Nat.le_refl _) hv
    · exact absurd q (by decide)

set_option maxHeartbeats 4000000 in
theorem lp_X1_otherSide_80 {G : GG} {j nw nx gn : Nat} {g : Nat → Sh} {c : Nat → Nat → Int} {post : Option AV → AM → Prop} {e s t : Nat} {be : Nat → Nat} {le : Nat → Nat} {hd : Nat → Nat} {ls : Nat → Nat} {st : Nat → Int} {pr : Nat → Nat} {iv : Nat → Nat} {fa : Nat → Nat} {eb : Nat → Nat} {ml : Nat → Nat} {mf : Nat → Int} {rw : Nat → Nat} {dn : Nat → Nat} {rk : Nat} {mn : Nat} {mm : Nat} (he : e = 21 ∨ e = 35) (hst : STok st mn) (hmn : mn ≤ 60) (hle : ∀ x, x < mn → le x ≤ 100) (hs : s < 5) (ht : t < 5) (hne : s ≠ t) (hm : 2 ≤ be (s * 5 + t) ∧ be (s * 5 + t) ≤ 12) : ∀ k u l xx, u + k = be (s * 5 + t) → (l = s ∨ l = t) → xx < mn → (osU st s t k l xx = -1 → post (some (vi (-1))) (S nw nx g, 78 + gn, (em c e be le hd ls st pr iv fa eb ml mf rw dn rk mn mm))) → (∀ v : Nat, osU st s t k l xx = ((v : Nat) : Int) ∧ v < mn → post (some (vi ((v : Nat) : Int))) (S nw nx g, 78 + gn, (em c e be le hd ls st pr iv fa eb ml mf rw dn rk mn mm))) → SW G (j + 1) mX1_otherSide 80 [some (vr (e)), none, some (vi (((s : Nat) : Int))), some (vi (((t : Nat) : Int))), none, some (vi (((l : Nat) : Int))), some (vi (((xx : Nat) : Int))), some (vi (((u : Nat) : Int)))] [] (S nw nx g, 78 + gn, (em c e be le hd ls st pr iv fa eb ml mf rw dn rk mn mm)) B0 post := by
  intro k
  induction k with
  | zero =>
    intro u l xx hu hl hx K1 K2
    refine g_X1_otherSide_80 he ?_
    refine ⟨?_, ?_, ?_, ⟨?_, ?_, ⟨fun q => ?_, fun q => ⟨?_, ⟨fun q => ?_, fun q => ⟨?_, ?_, ?_, ?_, fun q => ⟨?_, ?_⟩, fun v_1 => fun q => ⟨?_, ?_⟩⟩⟩⟩⟩⟩⟩
    all_goals first | omega | exact K2 xx ⟨rfl, hx⟩ | (exfalso; omega)
  | succ k ih =>
    intro u l xx hu hl hx K1 K2
    refine g_X1_otherSide_80 he ?_
    rcases hst xx l hx (by omega) with h | ⟨v, hv, h⟩
    · have e0 : osU st s t (k + 1) l xx = -1 := by rw [osU, if_pos h]
      have K3 := K1 e0
      refine ⟨?_, ?_, ?_, ⟨?_, ?_, ⟨fun q => ?_, fun q => ⟨?_, ⟨fun q => ?_, fun q => ⟨?_, ?_, ?_, ?_, fun q => ⟨?_, ?_⟩, fun v_1 => fun q => ⟨?_, ?_⟩⟩⟩⟩⟩⟩⟩
      all_goals first | omega | assumption | (exfalso; omega) | (refine g_X1_otherSide_80m he ?_; refine ⟨?_, ?_, ?_, ⟨?_, ?_, ⟨fun q => ?_, fun q => ?_⟩⟩⟩ <;> first | omega | exact K3 | (exfalso; omega))
    · have e0 : osU st s t (k + 1) l xx = osU st s t k (s + t - l) v := by rw [osU, if_neg (by omega), h, Int.toNat_natCast]
      rw [e0] at K1 K2
      refine ⟨?_, ?_, ?_, ⟨?_, ?_, ⟨fun q => ?_, fun q => ⟨?_, ⟨fun q => ?_, fun q => ⟨?_, ?_, ?_, ?_, fun q => ⟨?_, ?_⟩, fun v_1 => fun q => ⟨?_, ?_⟩⟩⟩⟩⟩⟩⟩
      all_goals first | omega | assumption | (exfalso; omega) | (have e9 : v_1 = v := (by omega); subst e9; exact ih _ _ _ (by omega) (by omega) hv K1 K2)
set_option maxHeartbeats 4000000 in
theorem lp_X1_otherSide_9 {G : GG} {j nw nx gn : Nat} {g : Nat → Sh} {c : Nat → Nat → Int} {post : Option AV → AM → Prop} {e s t : Nat} {be : Nat → Nat} {le : Nat → Nat} {hd : Nat → Nat} {ls : Nat → Nat} {st : Nat → Int} {pr : Nat → Nat} {iv : Nat → Nat} {fa : Nat → Nat} {eb : Nat → Nat} {ml : Nat → Nat} {mf : Nat → Int} {rw : Nat → Nat} {dn : Nat → Nat} {rk : Nat} {mn : Nat} {mm : Nat} (he : e = 21 ∨ e = 35) (hst : STok st mn) (hmn : mn ≤ 60) (hle : ∀ x, x < mn → le x ≤ 100) (hs : s < 5) (ht : t < 5) (hne : s ≠ t) (hm : 2 ≤ be (s * 5 + t) ∧ be (s * 5 + t) ≤ 12) : ∀ k u l f, 1 ≤ u → u + k = be (s * 5 + t) → (l = s ∨ l = t) → f < mn → (osD st le s t (be (s * 5 + t) - 1) k l f = -1 → post (some (vi (-1))) (S nw nx g, 78 + gn, (em c e be le hd ls st pr iv fa eb ml mf rw dn rk mn mm))) → (∀ v : Nat, osD st le s t (be (s * 5 + t) - 1) k l f = ((v : Nat) : Int) ∧ v < mn → post (some (vi ((v : Nat) : Int))) (S nw nx g, 78 + gn, (em c e be le hd ls st pr iv fa eb ml mf rw dn rk mn mm))) → SW G (j + 1) mX1_otherSide 9 [some (vr (e)), none, some (vi (((s : Nat) : Int))), some (vi (((t : Nat) : Int))), some (vi (((f : Nat) : Int))), some (vi (((l : Nat) : Int))), some (vi (((u : Nat) : Int))), none] [] (S nw nx g, 78 + gn, (em c e be le hd ls st pr iv fa eb ml mf rw dn rk mn mm)) B0 post := by
  intro k
  induction k with
  | zero =>
    intro u l f hu1 hu hl hf K1 K2
    refine g_X1_otherSide_9 he ?_
    refine ⟨?_, ?_, ?_, ⟨?_, ?_, ⟨fun q => ?_, fun q => ⟨?_, ?_, ?_, ?_, fun q => ?_, fun v_1 => fun q => ⟨?_, ⟨fun q => ?_, fun q => ⟨?_, ⟨?_, ⟨?_, ?_, ⟨fun q => ⟨?_, ?_⟩, fun q => ?_⟩⟩⟩⟩⟩⟩⟩⟩⟩⟩
    all_goals first | omega | assumption | (exfalso; omega) | skip
    exact lp_X1_otherSide_80 he hst hmn hle hs ht hne hm (be (s * 5 + t) - 1) 1 l f (by omega) hl hf K1 K2
  | succ k ih =>
    intro u l f hu1 hu hl hf K1 K2
    refine g_X1_otherSide_9 he ?_
    have lf := hle f hf
    rcases hst f l hf (by omega) with h | ⟨v, hv, h⟩
    · have e0 : osD st le s t (be (s * 5 + t) - 1) (k + 1) l f = -1 := by rw [osD, if_pos h]
      have K3 := K1 e0
      refine ⟨?_, ?_, ?_, ⟨?_, ?_, ⟨fun q => ?_, fun q => ⟨?_, ?_, ?_, ?_, fun q => ?_, fun v_1 => fun q => ⟨?_, ⟨fun q => ?_, fun q => ⟨?_, ⟨?_, ⟨?_, ?_, ⟨fun q => ⟨?_, ?_⟩, fun q => ?_⟩⟩⟩⟩⟩⟩⟩⟩⟩⟩
      all_goals first | omega | assumption | (exfalso; omega) | exact K3
    · have lv := hle v hv
      by_cases hc : le f < le v
      · have e0 : osD st le s t (be (s * 5 + t) - 1) (k + 1) l f = -1 := by rw [osD, if_neg (by omega), h, Int.toNat_natCast, if_pos hc]
        have K3 := K1 e0
        refine ⟨?_, ?_, ?_, ⟨?_, ?_, ⟨fun q => ?_, fun q => ⟨?_, ?_, ?_, ?_, fun q => ?_, fun v_1 => fun q => ⟨?_, ⟨fun q => ?_, fun q => ⟨?_, ⟨?_, ⟨?_, ?_, ⟨fun q => ⟨?_, ?_⟩, fun q => ?_⟩⟩⟩⟩⟩⟩⟩⟩⟩⟩
        all_goals first | omega | assumption | (exfalso; omega) | exact K3 | (have e9 : v_1 = v := (by omega); subst e9; first | omega | (exfalso; omega))
      · have e0 : osD st le s t (be (s * 5 + t) - 1) (k + 1) l f = osD st le s t (be (s * 5 + t) - 1) k (s + t - l) v := by rw [osD, if_neg (by omega), h, Int.toNat_natCast, if_neg hc]
        rw [e0] at K1 K2
        refine ⟨?_, ?_, ?_, ⟨?_, ?_, ⟨fun q => ?_, fun q => ⟨?_, ?_, ?_, ?_, fun q => ?_, fun v_1 => fun q => ⟨?_, ⟨fun q => ?_, fun q => ⟨?_, ⟨?_, ⟨?_, ?_, ⟨fun q => ⟨?_, ?_⟩, fun q => ?_⟩⟩⟩⟩⟩⟩⟩⟩⟩⟩
        all_goals first | omega | assumption | (exfalso; omega) | (have e9 : v_1 = v := (by omega); subst e9; first | omega | (exfalso; omega) | exact ih _ _ _ (by omega) (by omega) (by omega) hv K1 K2)
theorem c_X1_otherSide {G : GG} {j nw nx gn : Nat} {g : Nat → Sh} {c : Nat → Nat → Int} {post : Option AV → AM → Prop} {e w s t : Nat} {be : Nat → Nat} {le : Nat → Nat} {hd : Nat → Nat} {ls : Nat → Nat} {st : Nat → Int} {pr : Nat → Nat} {iv : Nat → Nat} {fa : Nat → Nat} {eb : Nat → Nat} {ml : Nat → Nat} {mf : Nat → Int} {rw : Nat → Nat} {dn : Nat → Nat} {rk : Nat} {mn : Nat} {mm : Nat} (he : e = 21 ∨ e = 35) (hst : STok st mn) (hmn : mn ≤ 60) (hle : ∀ x, x < mn → le x ≤ 100) (hs : s < 5) (ht : t < 5) (hne : s ≠ t) (hm : 2 ≤ be (s * 5 + t) ∧ be (s * 5 + t) ≤ 12) (hw : w < mn) (K1 : oth st le (be (s * 5 + t)) w s t = -1 → post (some (vi (-1))) (S nw nx g, 78 + gn, (em c e be le hd ls st pr iv fa eb ml mf rw dn rk mn mm))) (K2 : ∀ v : Nat, oth st le (be (s * 5 + t)) w s t = ((v : Nat) : Int) ∧ v < mn → post (some (vi ((v : Nat) : Int))) (S nw nx g, 78 + gn, (em c e be le hd ls st pr iv fa eb ml mf rw dn rk mn mm))) : SM G (j + 2) mX1_otherSide [vr (e), vi (((w : Nat) : Int)), vi (((s : Nat) : Int)), vi (((t : Nat) : Int))] (S nw nx g, 78 + gn, (em c e be le hd ls st pr iv fa eb ml mf rw dn rk mn mm)) 0 0 post := by
  refine sm_of wX1_otherSide rfl (Nat.le_of_ble_eq_true rfl) ?_
  refine g_X1_otherSide_0 he ?_
  exact lp_X1_otherSide_9 he hst hmn hle hs ht hne hm (be (s * 5 + t) - 1) 1 t w (Nat.le_refl _) (by omega) (Or.inr rfl) hw K1 K2

