theorem rl_lt {P : GD} (hR : 0 < gR P) (i x l : Nat) : rlF P i x l < gR P := by
  induction i generalizing x l with
  | zero => rw [rlF]; exact rs5 hR x l
  | succ i ih => rw [rlF]; exact ih _ _
theorem RW_at {P : GD} {x : Nat} {c : Nat → Nat → Int} (h : RWS P x c) {k i : Nat} (hk : k < gW P x) (hi : i < gL P x) : c 62 (14 * k + i) = ((rlF P i x k : Nat) : Int) := h.2 k i hk hi
theorem RW_at1 {P : GD} {x : Nat} {c : Nat → Nat → Int} (h : RWS P x c) {k i : Nat} (hk : k < gW P x) (hi : i + 1 < gL P x) : c 62 (14 * k + i + 1) = ((rlF P (i + 1) x k : Nat) : Int) := h.2 k (i + 1) hk hi
set_option maxHeartbeats 2000000 in
set_option maxRecDepth 20000 in
theorem g_X9_isMove_31 {G : GG} {j nw nx gn : Nat} {g : Nat → Sh} {c : Nat → Nat → Int} {post : Option AV → AM → Prop} {k : Nat} {l : Nat} {p : Nat} {mm : Nat} {wd0 : Nat} {P : GD} {x : Nat} {i : Nat} (hM : ML c P) (hV : GV P) (hRw : RWS P x c)  (hv : (i < 2147483648) ∧ (wd0 < 2147483648) ∧ (((wd0 ≤ i) → post (some (vi (1))) (S nw nx g, 78 + gn, c)) ∧ ((¬ (wd0 ≤ i)) → (i < 2147483648) ∧ (p < 2147483648) ∧ (((i < p) → (k < gW P x) ∧ (i < gL P x) ∧ ((14 * k) + i < 4200) ∧ ((k < gW P x) ∧ (i < gL P x) ∧ ((14 * k) + i < 4200) ∧ ((k < gW P x) ∧ (i < gL P x) ∧ ((14 * k) + i < 4200) ∧ ((rlF P i x k < 2147483648) ∧ (rlF P i x k < 2147483648) ∧ (((rlF P i x k ≠ rlF P i x k) → post (some (vi (0))) (S nw nx g, 78 + gn, c)) ∧ ((rlF P i x k = rlF P i x k) → (l < gW P x) ∧ (i < gL P x) ∧ ((14 * l) + i < 4200) ∧ ((rlF P i x l < 2147483648) ∧ (rlF P i x k < 2147483648) ∧ (((rlF P i x l = rlF P i x k) → SW G (j + 0) mX9_isMove 31 [some (vr (49)), some (vi (((k : Nat) : Int))), some (vi (((l : Nat) : Int))), some (vi (((p : Nat) : Int))), some (vi (((mm : Nat) : Int))), some (vi (((wd0 : Nat) : Int))), some (vi (((rlF P p x k : Nat) : Int))), some (vi (((rlF P (p + 1) x k : Nat) : Int))), some (vi (((i + 1 : Nat) : Int))), none, none, none] [] (S nw nx g, 78 + gn, c) B0 post) ∧ ((¬ (rlF P i x l = rlF P i x k)) → post (some (vi (0))) (S nw nx g, 78 + gn, c)))))))))) ∧ ((¬ (i < p)) → (i < 2147483648) ∧ (p + mm < 2147483648) ∧ (((p + mm ≤ i) → (k < gW P x) ∧ (i < gL P x) ∧ ((14 * k) + i < 4200) ∧ ((k < gW P x) ∧ (i < gL P x) ∧ ((14 * k) + i < 4200) ∧ ((k < gW P x) ∧ (i < gL P x) ∧ ((14 * k) + i < 4200) ∧ ((rlF P i x k < 2147483648) ∧ (rlF P i x k < 2147483648) ∧ (((rlF P i x k ≠ rlF P i x k) → post (some (vi (0))) (S nw nx g, 78 + gn, c)) ∧ ((rlF P i x k = rlF P i x k) → (l < gW P x) ∧ (i < gL P x) ∧ ((14 * l) + i < 4200) ∧ ((rlF P i x l < 2147483648) ∧ (rlF P i x k < 2147483648) ∧ (((rlF P i x l = rlF P i x k) → SW G (j + 0) mX9_isMove 31 [some (vr (49)), some (vi (((k : Nat) : Int))), some (vi (((l : Nat) : Int))), some (vi (((p : Nat) : Int))), some (vi (((mm : Nat) : Int))), some (vi (((wd0 : Nat) : Int))), some (vi (((rlF P p x k : Nat) : Int))), some (vi (((rlF P (p + 1) x k : Nat) : Int))), some (vi (((i + 1 : Nat) : Int))), none, none, none] [] (S nw nx g, 78 + gn, c) B0 post) ∧ ((¬ (rlF P i x l = rlF P i x k)) → post (some (vi (0))) (S nw nx g, 78 + gn, c)))))))))) ∧ ((¬ (p + mm ≤ i)) → (p ≤ i) ∧ ((i - p < 2147483648) ∧ (((i - p) % 2 < 2147483648) ∧ ((((i - p) % 2 ≠ 0) → (p ≤ i) ∧ ((i - p < 2147483648) ∧ (((i - p) % 2 < 2147483648) ∧ ((((i - p) % 2 ≠ 0) → (k < gW P x) ∧ (i < gL P x) ∧ ((14 * k) + i < 4200) ∧ ((rlF P i x k < 2147483648) ∧ (rlF P (p + 1) x k < 2147483648) ∧ (((rlF P i x k ≠ rlF P (p + 1) x k) → post (some (vi (0))) (S nw nx g, 78 + gn, c)) ∧ ((rlF P i x k = rlF P (p + 1) x k) → (l < gW P x) ∧ (i < gL P x) ∧ ((14 * l) + i < 4200) ∧ ((rlF P i x l < 2147483648) ∧ (rlF P p x k < 2147483648) ∧ (((rlF P i x l = rlF P p x k) → SW G (j + 0) mX9_isMove 31 [some (vr (49)), some (vi (((k : Nat) : Int))), some (vi (((l : Nat) : Int))), some (vi (((p : Nat) : Int))), some (vi (((mm : Nat) : Int))), some (vi (((wd0 : Nat) : Int))), some (vi (((rlF P p x k : Nat) : Int))), some (vi (((rlF P (p + 1) x k : Nat) : Int))), some (vi (((i + 1 : Nat) : Int))), none, none, none] [] (S nw nx g, 78 + gn, c) B0 post) ∧ ((¬ (rlF P i x l = rlF P p x k)) → post (some (vi (0))) (S nw nx g, 78 + gn, c)))))))) ∧ (((i - p) % 2 = 0) → (k < gW P x) ∧ (i < gL P x) ∧ ((14 * k) + i < 4200) ∧ ((rlF P i x k < 2147483648) ∧ (rlF P (p + 1) x k < 2147483648) ∧ (((rlF P i x k ≠ rlF P (p + 1) x k) → post (some (vi (0))) (S nw nx g, 78 + gn, c)) ∧ ((rlF P i x k = rlF P (p + 1) x k) → (l < gW P x) ∧ (i < gL P x) ∧ ((14 * l) + i < 4200) ∧ ((rlF P i x l < 2147483648) ∧ (rlF P (p + 1) x k < 2147483648) ∧ (((rlF P i x l = rlF P (p + 1) x k) → SW G (j + 0) mX9_isMove 31 [some (vr (49)), some (vi (((k : Nat) : Int))), some (vi (((l : Nat) : Int))), some (vi (((p : Nat) : Int))), some (vi (((mm : Nat) : Int))), some (vi (((wd0 : Nat) : Int))), some (vi (((rlF P p x k : Nat) : Int))), some (vi (((rlF P (p + 1) x k : Nat) : Int))), some (vi (((i + 1 : Nat) : Int))), none, none, none] [] (S nw nx g, 78 + gn, c) B0 post) ∧ ((¬ (rlF P i x l = rlF P (p + 1) x k)) → post (some (vi (0))) (S nw nx g, 78 + gn, c)))))))))))) ∧ (((i - p) % 2 = 0) → (p ≤ i) ∧ ((i - p < 2147483648) ∧ (((i - p) % 2 < 2147483648) ∧ ((((i - p) % 2 ≠ 0) → (k < gW P x) ∧ (i < gL P x) ∧ ((14 * k) + i < 4200) ∧ ((rlF P i x k < 2147483648) ∧ (rlF P p x k < 2147483648) ∧ (((rlF P i x k ≠ rlF P p x k) → post (some (vi (0))) (S nw nx g, 78 + gn, c)) ∧ ((rlF P i x k = rlF P p x k) → (l < gW P x) ∧ (i < gL P x) ∧ ((14 * l) + i < 4200) ∧ ((rlF P i x l < 2147483648) ∧ (rlF P p x k < 2147483648) ∧ (((rlF P i x l = rlF P p x k) → SW G (j + 0) mX9_isMove 31 [some (vr (49)), some (vi (((k : Nat) : Int))), some (vi (((l : Nat) : Int))), some (vi (((p : Nat) : Int))), some (vi (((mm : Nat) : Int))), some (vi (((wd0 : Nat) : Int))), some (vi (((rlF P p x k : Nat) : Int))), some (vi (((rlF P (p + 1) x k : Nat) : Int))), some (vi (((i + 1 : Nat) : Int))), none, none, none] [] (S nw nx g, 78 + gn, c) B0 post) ∧ ((¬ (rlF P i x l = rlF P p x k)) → post (some (vi (0))) (S nw nx g, 78 + gn, c)))))))) ∧ (((i - p) % 2 = 0) → (k < gW P x) ∧ (i < gL P x) ∧ ((14 * k) + i < 4200) ∧ ((rlF P i x k < 2147483648) ∧ (rlF P p x k < 2147483648) ∧ (((rlF P i x k ≠ rlF P p x k) → post (some (vi (0))) (S nw nx g, 78 + gn, c)) ∧ ((rlF P i x k = rlF P p x k) → (l < gW P x) ∧ (i < gL P x) ∧ ((14 * l) + i < 4200) ∧ ((rlF P i x l < 2147483648) ∧ (rlF P (p + 1) x k < 2147483648) ∧ (((rlF P i x l = rlF P (p + 1) x k) → SW G (j + 0) mX9_isMove 31 [some (vr (49)), some (vi (((k : Nat) : Int))), some (vi (((l : Nat) : Int))), some (vi (((p : Nat) : Int))), some (vi (((mm : Nat) : Int))), some (vi (((wd0 : Nat) : Int))), some (vi (((rlF P p x k : Nat) : Int))), some (vi (((rlF P (p + 1) x k : Nat) : Int))), some (vi (((i + 1 : Nat) : Int))), none, none, none] [] (S nw nx g, 78 + gn, c) B0 post) ∧ ((¬ (rlF P i x l = rlF P (p + 1) x k)) → post (some (vi (0))) (S nw nx g, 78 + gn, c)))))))))))))))))))))) :
    SW G (j + 0) mX9_isMove 31 [some (vr (49)), some (vi (((k : Nat) : Int))), some (vi (((l : Nat) : Int))), some (vi (((p : Nat) : Int))), some (vi (((mm : Nat) : Int))), some (vi (((wd0 : Nat) : Int))), some (vi (((rlF P p x k : Nat) : Int))), some (vi (((rlF P (p + 1) x k : Nat) : Int))), some (vi (((i : Nat) : Int))), none, none, none] [] (S nw nx g, 78 + gn, c) B0 post := by
  refine sw_iload (dX9_isMove_0.at 22 rfl) rfl ?_
  refine sw_iload (dX9_isMove_0.at 23 rfl) rfl ?_
  refine sw_icmpN_ge i wd0 (tgt := 178) (dX9_isMove_0.at 24 rfl) (by decide) hv.1 hv.2.1 (fun q => ?_) (fun q => ?_)
  · replace hv := hv.2.2.1 q
    refine sw_iconst (dX9_isMove_2.at 3 rfl) ?_
    exact sw_zret (dX9_isMove_2.at 4 rfl) rfl (by decide) (Nat.le_refl _) (Nat.le_refl _) hv
  · replace hv := hv.2.2.2 q
    refine sw_iload (dX9_isMove_0.at 25 rfl) rfl ?_
    refine sw_iload_n (dX9_isMove_0.at 26 rfl) rfl rfl ?_
    refine sw_icmpN_lt i p (tgt := 57) (dX9_isMove_0.at 27 rfl) (by decide) hv.1 hv.2.1 (fun q => ?_) (fun q => ?_)
    · replace hv := hv.2.2.1 q
      refine sw_iconst (dX9_isMove_0.at 35 rfl) ?_
      refine sw_istore (lo' := [some (vr (49)), some (vi (((k : Nat) : Int))), some (vi (((l : Nat) : Int))), some (vi (((p : Nat) : Int))), some (vi (((mm : Nat) : Int))), some (vi (((wd0 : Nat) : Int))), some (vi (((rlF P p x k : Nat) : Int))), some (vi (((rlF P (p + 1) x k : Nat) : Int))), some (vi (((i : Nat) : Int))), some (vi (0)), none, none]) (dX9_isMove_0.at 36 rfl) (by decide) rfl ?_
      refine sw_iload (dX9_isMove_0.at 37 rfl) rfl ?_
      refine sw_if_eq (tgt := 84) (dX9_isMove_0.at 38 rfl) (by decide) (by decide) (fun q => ?_) (fun q => ?_)
      · clear q
        refine sw_aload_n (dX9_isMove_0.at 49 rfl) rfl rfl ?_
        refine sw_getR (dX9_isMove_1.at 0 rfl) fp_X9_50 (S_lt 49 (by decide)) (S_49 nw nx g) rfl rfl ?_
        refine sw_bipush (dX9_isMove_1.at 1 rfl) (by decide) ?_
        refine sw_iload_n (dX9_isMove_1.at 2 rfl) rfl rfl ?_
        refine sw_imul (dX9_isMove_1.at 3 rfl) ?_
        refine sw_topI (y := ((14 * k : Nat) : Int)) (by first | rfl | (congr 1)) ?_
        refine sw_iload (dX9_isMove_1.at 4 rfl) rfl ?_
        refine sw_iadd (dX9_isMove_1.at 5 rfl) ?_
        refine sw_topI (y := (((14 * k) + i : Nat) : Int)) (by first | rfl | (congr 1)) ?_
        refine sw_ialdN ((14 * k) + i) (w := ((rlF P i x k : Nat) : Int)) (dX9_isMove_1.at 6 rfl) (S_lt 62 (by decide)) (S_62 nw nx g) (by decide) hv.2.2.1 (RW_at hRw hv.1 hv.2.1) ?_
        replace hv := hv.2.2.2
        refine sw_istore (lo' := [some (vr (49)), some (vi (((k : Nat) : Int))), some (vi (((l : Nat) : Int))), some (vi (((p : Nat) : Int))), some (vi (((mm : Nat) : Int))), some (vi (((wd0 : Nat) : Int))), some (vi (((rlF P p x k : Nat) : Int))), some (vi (((rlF P (p + 1) x k : Nat) : Int))), some (vi (((i : Nat) : Int))), some (vi (0)), some (vi (((rlF P i x k : Nat) : Int))), none]) (dX9_isMove_1.at 7 rfl) (by decide) rfl ?_
        refine sw_iload (dX9_isMove_1.at 8 rfl) rfl ?_
        refine sw_if_eq (tgt := 122) (dX9_isMove_1.at 9 rfl) (by decide) (by decide) (fun q => ?_) (fun q => ?_)
        · clear q
          refine sw_aload_n (dX9_isMove_1.at 20 rfl) rfl rfl ?_
          refine sw_getR (dX9_isMove_1.at 21 rfl) fp_X9_50 (S_lt 49 (by decide)) (S_49 nw nx g) rfl rfl ?_
          refine sw_bipush (dX9_isMove_1.at 22 rfl) (by decide) ?_
          refine sw_iload_n (dX9_isMove_1.at 23 rfl) rfl rfl ?_
          refine sw_imul (dX9_isMove_1.at 24 rfl) ?_
          refine sw_topI (y := ((14 * k : Nat) : Int)) (by first | rfl | (congr 1)) ?_
          refine sw_iload (dX9_isMove_1.at 25 rfl) rfl ?_
          refine sw_iadd (dX9_isMove_1.at 26 rfl) ?_
          refine sw_topI (y := (((14 * k) + i : Nat) : Int)) (by first | rfl | (congr 1)) ?_
          refine sw_ialdN ((14 * k) + i) (w := ((rlF P i x k : Nat) : Int)) (dX9_isMove_1.at 27 rfl) (S_lt 62 (by decide)) (S_62 nw nx g) (by decide) hv.2.2.1 (RW_at hRw hv.1 hv.2.1) ?_
          replace hv := hv.2.2.2
          refine sw_istore (lo' := [some (vr (49)), some (vi (((k : Nat) : Int))), some (vi (((l : Nat) : Int))), some (vi (((p : Nat) : Int))), some (vi (((mm : Nat) : Int))), some (vi (((wd0 : Nat) : Int))), some (vi (((rlF P p x k : Nat) : Int))), some (vi (((rlF P (p + 1) x k : Nat) : Int))), some (vi (((i : Nat) : Int))), some (vi (0)), some (vi (((rlF P i x k : Nat) : Int))), some (vi (((rlF P i x k : Nat) : Int)))]) (dX9_isMove_1.at 28 rfl) (by decide) rfl ?_
          refine sw_aload_n (dX9_isMove_1.at 29 rfl) rfl rfl ?_
          refine sw_getR (dX9_isMove_1.at 30 rfl) fp_X9_50 (S_lt 49 (by decide)) (S_49 nw nx g) rfl rfl ?_
          refine sw_bipush (dX9_isMove_1.at 31 rfl) (by decide) ?_
          refine sw_iload_n (dX9_isMove_1.at 32 rfl) rfl rfl ?_
          refine sw_imul (dX9_isMove_1.at 33 rfl) ?_
          refine sw_topI (y := ((14 * k : Nat) : Int)) (by first | rfl | (congr 1)) ?_
          refine sw_iload (dX9_isMove_1.at 34 rfl) rfl ?_
          refine sw_iadd (dX9_isMove_1.at 35 rfl) ?_
          refine sw_topI (y := (((14 * k) + i : Nat) : Int)) (by first | rfl | (congr 1)) ?_
          refine sw_ialdN ((14 * k) + i) (w := ((rlF P i x k : Nat) : Int)) (dX9_isMove_1.at 36 rfl) (S_lt 62 (by decide)) (S_62 nw nx g) (by decide) hv.2.2.1 (RW_at hRw hv.1 hv.2.1) ?_
          replace hv := hv.2.2.2
          refine sw_iload (dX9_isMove_1.at 37 rfl) rfl ?_
          refine sw_icmpN_ne (rlF P i x k) (rlF P i x k) (tgt := 170) (dX9_isMove_1.at 38 rfl) (by decide) hv.1 hv.2.1 (fun q => ?_) (fun q => ?_)
          · replace hv := hv.2.2.1 q
            refine sw_iconst (dX9_isMove_1.at 49 rfl) ?_
            exact sw_zret (dX9_isMove_2.at 0 rfl) rfl (by decide) (Nat.le_refl _) (Nat.le_refl _) hv
          · replace hv := hv.2.2.2 q
            refine sw_aload_n (dX9_isMove_1.at 39 rfl) rfl rfl ?_
            refine sw_getR (dX9_isMove_1.at 40 rfl) fp_X9_50 (S_lt 49 (by decide)) (S_49 nw nx g) rfl rfl ?_
            refine sw_bipush (dX9_isMove_1.at 41 rfl) (by decide) ?_
            refine sw_iload_n (dX9_isMove_1.at 42 rfl) rfl rfl ?_
            refine sw_imul (dX9_isMove_1.at 43 rfl) ?_
            refine sw_topI (y := ((14 * l : Nat) : Int)) (by first | rfl | (congr 1)) ?_
            refine sw_iload (dX9_isMove_1.at 44 rfl) rfl ?_
            refine sw_iadd (dX9_isMove_1.at 45 rfl) ?_
            refine sw_topI (y := (((14 * l) + i : Nat) : Int)) (by first | rfl | (congr 1)) ?_
            refine sw_ialdN ((14 * l) + i) (w := ((rlF P i x l : Nat) : Int)) (dX9_isMove_1.at 46 rfl) (S_lt 62 (by decide)) (S_62 nw nx g) (by decide) hv.2.2.1 (RW_at hRw hv.1 hv.2.1) ?_
            replace hv := hv.2.2.2
            refine sw_iload (dX9_isMove_1.at 47 rfl) rfl ?_
            refine sw_icmpN_eq (rlF P i x l) (rlF P i x k) (tgt := 172) (dX9_isMove_1.at 48 rfl) (by decide) hv.1 hv.2.1 (fun q => ?_) (fun q => ?_)
            · replace hv := hv.2.2.1 q
              refine sw_iinc (lo' := [some (vr (49)), some (vi (((k : Nat) : Int))), some (vi (((l : Nat) : Int))), some (vi (((p : Nat) : Int))), some (vi (((mm : Nat) : Int))), some (vi (((wd0 : Nat) : Int))), some (vi (((rlF P p x k : Nat) : Int))), some (vi (((rlF P (p + 1) x k : Nat) : Int))), some (vi (((i + 1 : Nat) : Int))), some (vi (0)), some (vi (((rlF P i x k : Nat) : Int))), some (vi (((rlF P i x k : Nat) : Int)))]) (dX9_isMove_2.at 1 rfl) rfl (by decide) rfl ?_
              refine sw_goto (tgt := 31) (dX9_isMove_2.at 2 rfl) (by decide) ?_
              exact sw_mask (bs := [true, true, true, true, true, true, true, true, true, false, false, false]) hv
            · replace hv := hv.2.2.2 q
              refine sw_iconst (dX9_isMove_1.at 49 rfl) ?_
              exact sw_zret (dX9_isMove_2.at 0 rfl) rfl (by decide) (Nat.le_refl _) (Nat.le_refl _) hv
        · exact absurd q (by decide)
      · exact absurd q (by decide)
    · replace hv := hv.2.2.2 q
      refine sw_iload (dX9_isMove_0.at 28 rfl) rfl ?_
      refine sw_iload_n (dX9_isMove_0.at 29 rfl) rfl rfl ?_
      refine sw_iload (dX9_isMove_0.at 30 rfl) rfl ?_
      refine sw_iadd (dX9_isMove_0.at 31 rfl) ?_
      refine sw_topI (y := ((p + mm : Nat) : Int)) (by first | rfl | (congr 1)) ?_
      refine sw_icmpN_ge i (p + mm) (tgt := 57) (dX9_isMove_0.at 32 rfl) (by decide) hv.1 hv.2.1 (fun q => ?_) (fun q => ?_)
      · replace hv := hv.2.2.1 q
        refine sw_iconst (dX9_isMove_0.at 35 rfl) ?_
        refine sw_istore (lo' := [some (vr (49)), some (vi (((k : Nat) : Int))), some (vi (((l : Nat) : Int))), some (vi (((p : Nat) : Int))), some (vi (((mm : Nat) : Int))), some (vi (((wd0 : Nat) : Int))), some (vi (((rlF P p x k : Nat) : Int))), some (vi (((rlF P (p + 1) x k : Nat) : Int))), some (vi (((i : Nat) : Int))), some (vi (0)), none, none]) (dX9_isMove_0.at 36 rfl) (by decide) rfl ?_
        refine sw_iload (dX9_isMove_0.at 37 rfl) rfl ?_
        refine sw_if_eq (tgt := 84) (dX9_isMove_0.at 38 rfl) (by decide) (by decide) (fun q => ?_) (fun q => ?_)
        · clear q
          refine sw_aload_n (dX9_isMove_0.at 49 rfl) rfl rfl ?_
          refine sw_getR (dX9_isMove_1.at 0 rfl) fp_X9_50 (S_lt 49 (by decide)) (S_49 nw nx g) rfl rfl ?_
          refine sw_bipush (dX9_isMove_1.at 1 rfl) (by decide) ?_
          refine sw_iload_n (dX9_isMove_1.at 2 rfl) rfl rfl ?_
          refine sw_imul (dX9_isMove_1.at 3 rfl) ?_
          refine sw_topI (y := ((14 * k : Nat) : Int)) (by first | rfl | (congr 1)) ?_
          refine sw_iload (dX9_isMove_1.at 4 rfl) rfl ?_
          refine sw_iadd (dX9_isMove_1.at 5 rfl) ?_
          refine sw_topI (y := (((14 * k) + i : Nat) : Int)) (by first | rfl | (congr 1)) ?_
          refine sw_ialdN ((14 * k) + i) (w := ((rlF P i x k : Nat) : Int)) (dX9_isMove_1.at 6 rfl) (S_lt 62 (by decide)) (S_62 nw nx g) (by decide) hv.2.2.1 (RW_at hRw hv.1 hv.2.1) ?_
          replace hv := hv.2.2.2
          refine sw_istore (lo' := [some (vr (49)), some (vi (((k : Nat) : Int))), some (vi (((l : Nat) : Int))), some (vi (((p : Nat) : Int))), some (vi (((mm : Nat) : Int))), some (vi (((wd0 : Nat) : Int))), some (vi (((rlF P p x k : Nat) : Int))), some (vi (((rlF P (p + 1) x k : Nat) : Int))), some (vi (((i : Nat) : Int))), some (vi (0)), some (vi (((rlF P i x k : Nat) : Int))), none]) (dX9_isMove_1.at 7 rfl) (by decide) rfl ?_
          refine sw_iload (dX9_isMove_1.at 8 rfl) rfl ?_
          refine sw_if_eq (tgt := 122) (dX9_isMove_1.at 9 rfl) (by decide) (by decide) (fun q => ?_) (fun q => ?_)
          · clear q
            refine sw_aload_n (dX9_isMove_1.at 20 rfl) rfl rfl ?_
            refine sw_getR (dX9_isMove_1.at 21 rfl) fp_X9_50 (S_lt 49 (by decide)) (S_49 nw nx g) rfl rfl ?_
            refine sw_bipush (dX9_isMove_1.at 22 rfl) (by decide) ?_
            refine sw_iload_n (dX9_isMove_1.at 23 rfl) rfl rfl ?_
            refine sw_imul (dX9_isMove_1.at 24 rfl) ?_
            refine sw_topI (y := ((14 * k : Nat) : Int)) (by first | rfl | (congr 1)) ?_
            refine sw_iload (dX9_isMove_1.at 25 rfl) rfl ?_
            refine sw_iadd (dX9_isMove_1.at 26 rfl) ?_
            refine sw_topI (y := (((14 * k) + i : Nat) : Int)) (by first | rfl | (congr 1)) ?_
            refine sw_ialdN ((14 * k) + i) (w := ((rlF P i x k : Nat) : Int)) (dX9_isMove_1.at 27 rfl) (S_lt 62 (by decide)) (S_62 nw nx g) (by decide) hv.2.2.1 (RW_at hRw hv.1 hv.2.1) ?_
            replace hv := hv.2.2.2
            refine sw_istore (lo' := [some (vr (49)), some (vi (((k : Nat) : Int))), some (vi (((l : Nat) : Int))), some (vi (((p : Nat) : Int))), some (vi (((mm : Nat) : Int))), some (vi (((wd0 : Nat) : Int))), some (vi (((rlF P p x k : Nat) : Int))), some (vi (((rlF P (p + 1) x k : Nat) : Int))), some (vi (((i : Nat) : Int))), some (vi (0)), some (vi (((rlF P i x k : Nat) : Int))), some (vi (((rlF P i x k : Nat) : Int)))]) (dX9_isMove_1.at 28 rfl) (by decide) rfl ?_
            refine sw_aload_n (dX9_isMove_1.at 29 rfl) rfl rfl ?_
            refine sw_getR (dX9_isMove_1.at 30 rfl) fp_X9_50 (S_lt 49 (by decide)) (S_49 nw nx g) rfl rfl ?_
            refine sw_bipush (dX9_isMove_1.at 31 rfl) (by decide) ?_
            refine sw_iload_n (dX9_isMove_1.at 32 rfl) rfl rfl ?_
            refine sw_imul (dX9_isMove_1.at 33 rfl) ?_
            refine sw_topI (y := ((14 * k : Nat) : Int)) (by first | rfl | (congr 1)) ?_
            refine sw_iload (dX9_isMove_1.at 34 rfl) rfl ?_
            refine sw_iadd (dX9_isMove_1.at 35 rfl) ?_
            refine sw_topI (y := (((14 * k) + i : Nat) : Int)) (by first | rfl | (congr 1)) ?_
            refine sw_ialdN ((14 * k) + i) (w := ((rlF P i x k : Nat) : Int)) (dX9_isMove_1.at 36 rfl) (S_lt 62 (by decide)) (S_62 nw nx g) (by decide) hv.2.2.1 (RW_at hRw hv.1 hv.2.1) ?_
            replace hv := hv.2.2.2
            refine sw_iload (dX9_isMove_1.at 37 rfl) rfl ?_
            refine sw_icmpN_ne (rlF P i x k) (rlF P i x k) (tgt := 170) (dX9_isMove_1.at 38 rfl) (by decide) hv.1 hv.2.1 (fun q => ?_) (fun q => ?_)
            · replace hv := hv.2.2.1 q
              refine sw_iconst (dX9_isMove_1.at 49 rfl) ?_
              exact sw_zret (dX9_isMove_2.at 0 rfl) rfl (by decide) (Nat.le_refl _) (Nat.le_refl _) hv
            · replace hv := hv.2.2.2 q
              refine sw_aload_n (dX9_isMove_1.at 39 rfl) rfl rfl ?_
              refine sw_getR (dX9_isMove_1.at 40 rfl) fp_X9_50 (S_lt 49 (by decide)) (S_49 nw nx g) rfl rfl ?_
              refine sw_bipush (dX9_isMove_1.at 41 rfl) (by decide) ?_
              refine sw_iload_n (dX9_isMove_1.at 42 rfl) rfl rfl ?_
              refine sw_imul (dX9_isMove_1.at 43 rfl) ?_
              refine sw_topI (y := ((14 * l : Nat) : Int)) (by first | rfl | (congr 1)) ?_
              refine sw_iload (dX9_isMove_1.at 44 rfl) rfl ?_
              refine sw_iadd (dX9_isMove_1.at 45 rfl) ?_
              refine sw_topI (y := (((14 * l) + i : Nat) : Int)) (by first | rfl | (congr 1)) ?_
              refine sw_ialdN ((14 * l) + i) (w := ((rlF P i x l : Nat) : Int)) (dX9_isMove_1.at 46 rfl) (S_lt 62 (by decide)) (S_62 nw nx g) (by decide) hv.2.2.1 (RW_at hRw hv.1 hv.2.1) ?_
              replace hv := hv.2.2.2
              refine sw_iload (dX9_isMove_1.at 47 rfl) rfl ?_
              refine sw_icmpN_eq (rlF P i x l) (rlF P i x k) (tgt := 172) (dX9_isMove_1.at 48 rfl) (by decide) hv.1 hv.2.1 (fun q => ?_) (fun q => ?_)
              · replace hv := hv.2.2.1 q
                refine sw_iinc (lo' := [some (vr (49)), some (vi (((k : Nat) : Int))), some (vi (((l : Nat) : Int))), some (vi (((p : Nat) : Int))), some (vi (((mm : Nat) : Int))), some (vi (((wd0 : Nat) : Int))), some (vi (((rlF P p x k : Nat) : Int))), some (vi (((rlF P (p + 1) x k : Nat) : Int))), some (vi (((i + 1 : Nat) : Int))), some (vi (0)), some (vi (((rlF P i x k : Nat) : Int))), some (vi (((rlF P i x k : Nat) : Int)))]) (dX9_isMove_2.at 1 rfl) rfl (by decide) rfl ?_
                refine sw_goto (tgt := 31) (dX9_isMove_2.at 2 rfl) (by decide) ?_
                exact sw_mask (bs := [true, true, true, true, true, true, true, true, true, false, false, false]) hv
              · replace hv := hv.2.2.2 q
                refine sw_iconst (dX9_isMove_1.at 49 rfl) ?_
                exact sw_zret (dX9_isMove_2.at 0 rfl) rfl (by decide) (Nat.le_refl _) (Nat.le_refl _) hv
          · exact absurd q (by decide)
        · exact absurd q (by decide)
      · replace hv := hv.2.2.2 q
        refine sw_iconst (dX9_isMove_0.at 33 rfl) ?_
        refine sw_goto (tgt := 58) (dX9_isMove_0.at 34 rfl) (by decide) ?_
        refine sw_istore (lo' := [some (vr (49)), some (vi (((k : Nat) : Int))), some (vi (((l : Nat) : Int))), some (vi (((p : Nat) : Int))), some (vi (((mm : Nat) : Int))), some (vi (((wd0 : Nat) : Int))), some (vi (((rlF P p x k : Nat) : Int))), some (vi (((rlF P (p + 1) x k : Nat) : Int))), some (vi (((i : Nat) : Int))), some (vi (1)), none, none]) (dX9_isMove_0.at 36 rfl) (by decide) rfl ?_
        refine sw_iload (dX9_isMove_0.at 37 rfl) rfl ?_
        refine sw_if_eq (tgt := 84) (dX9_isMove_0.at 38 rfl) (by decide) (by decide) (fun q => ?_) (fun q => ?_)
        · exact absurd q (by decide)
        · clear q
          refine sw_iload (dX9_isMove_0.at 39 rfl) rfl ?_
          refine sw_iload_n (dX9_isMove_0.at 40 rfl) rfl rfl ?_
          refine sw_isub (dX9_isMove_0.at 41 rfl) ?_
          refine sw_topI (y := ((i - p : Nat) : Int)) (congrArg _ (Int.ofNat_sub hv.1).symm) ?_
          replace hv := hv.2
          refine sw_iconst (dX9_isMove_0.at 42 rfl) ?_
          refine sw_iremN (i - p) 2 (dX9_isMove_0.at 43 rfl) (by decide) (by decide) hv.1 ?_
          replace hv := hv.2
          refine sw_ifN_ne ((i - p) % 2) (tgt := 79) (dX9_isMove_0.at 44 rfl) (by decide) hv.1 (fun q => ?_) (fun q => ?_)
          · replace hv := hv.2.1 q
            refine sw_iload (dX9_isMove_0.at 47 rfl) rfl ?_
            refine sw_goto (tgt := 96) (dX9_isMove_0.at 48 rfl) (by decide) ?_
            refine sw_istore (lo' := [some (vr (49)), some (vi (((k : Nat) : Int))), some (vi (((l : Nat) : Int))), some (vi (((p : Nat) : Int))), some (vi (((mm : Nat) : Int))), some (vi (((wd0 : Nat) : Int))), some (vi (((rlF P p x k : Nat) : Int))), some (vi (((rlF P (p + 1) x k : Nat) : Int))), some (vi (((i : Nat) : Int))), some (vi (1)), some (vi (((rlF P (p + 1) x k : Nat) : Int))), none]) (dX9_isMove_1.at 7 rfl) (by decide) rfl ?_
            refine sw_iload (dX9_isMove_1.at 8 rfl) rfl ?_
            refine sw_if_eq (tgt := 122) (dX9_isMove_1.at 9 rfl) (by decide) (by decide) (fun q => ?_) (fun q => ?_)
            · exact absurd q (by decide)
            · clear q
              refine sw_iload (dX9_isMove_1.at 10 rfl) rfl ?_
              refine sw_iload_n (dX9_isMove_1.at 11 rfl) rfl rfl ?_
              refine sw_isub (dX9_isMove_1.at 12 rfl) ?_
              refine sw_topI (y := ((i - p : Nat) : Int)) (congrArg _ (Int.ofNat_sub hv.1).symm) ?_
              replace hv := hv.2
              refine sw_iconst (dX9_isMove_1.at 13 rfl) ?_
              refine sw_iremN (i - p) 2 (dX9_isMove_1.at 14 rfl) (by decide) (by decide) hv.1 ?_
              replace hv := hv.2
              refine sw_ifN_ne ((i - p) % 2) (tgt := 117) (dX9_isMove_1.at 15 rfl) (by decide) hv.1 (fun q => ?_) (fun q => ?_)
              · replace hv := hv.2.1 q
                refine sw_iload (dX9_isMove_1.at 18 rfl) rfl ?_
                refine sw_goto (tgt := 134) (dX9_isMove_1.at 19 rfl) (by decide) ?_
                refine sw_istore (lo' := [some (vr (49)), some (vi (((k : Nat) : Int))), some (vi (((l : Nat) : Int))), some (vi (((p : Nat) : Int))), some (vi (((mm : Nat) : Int))), some (vi (((wd0 : Nat) : Int))), some (vi (((rlF P p x k : Nat) : Int))), some (vi (((rlF P (p + 1) x k : Nat) : Int))), some (vi (((i : Nat) : Int))), some (vi (1)), some (vi (((rlF P (p + 1) x k : Nat) : Int))), some (vi (((rlF P p x k : Nat) : Int)))]) (dX9_isMove_1.at 28 rfl) (by decide) rfl ?_
                refine sw_aload_n (dX9_isMove_1.at 29 rfl) rfl rfl ?_
                refine sw_getR (dX9_isMove_1.at 30 rfl) fp_X9_50 (S_lt 49 (by decide)) (S_49 nw nx g) rfl rfl ?_
                refine sw_bipush (dX9_isMove_1.at 31 rfl) (by decide) ?_
                refine sw_iload_n (dX9_isMove_1.at 32 rfl) rfl rfl ?_
                refine sw_imul (dX9_isMove_1.at 33 rfl) ?_
                refine sw_topI (y := ((14 * k : Nat) : Int)) (by first | rfl | (congr 1)) ?_
                refine sw_iload (dX9_isMove_1.at 34 rfl) rfl ?_
                refine sw_iadd (dX9_isMove_1.at 35 rfl) ?_
                refine sw_topI (y := (((14 * k) + i : Nat) : Int)) (by first | rfl | (congr 1)) ?_
                refine sw_ialdN ((14 * k) + i) (w := ((rlF P i x k : Nat) : Int)) (dX9_isMove_1.at 36 rfl) (S_lt 62 (by decide)) (S_62 nw nx g) (by decide) hv.2.2.1 (RW_at hRw hv.1 hv.2.1) ?_
                replace hv := hv.2.2.2
                refine sw_iload (dX9_isMove_1.at 37 rfl) rfl ?_
                refine sw_icmpN_ne (rlF P i x k) (rlF P (p + 1) x k) (tgt := 170) (dX9_isMove_1.at 38 rfl) (by decide) hv.1 hv.2.1 (fun q => ?_) (fun q => ?_)
                · replace hv := hv.2.2.1 q
                  refine sw_iconst (dX9_isMove_1.at 49 rfl) ?_
                  exact sw_zret (dX9_isMove_2.at 0 rfl) rfl (by decide) (Nat.le_refl _) (Nat.le_refl _) hv
                · replace hv := hv.2.2.2 q
                  refine sw_aload_n (dX9_isMove_1.at 39 rfl) rfl rfl ?_
                  refine sw_getR (dX9_isMove_1.at 40 rfl) fp_X9_50 (S_lt 49 (by decide)) (S_49 nw nx g) rfl rfl ?_
                  refine sw_bipush (dX9_isMove_1.at 41 rfl) (by decide) ?_
                  refine sw_iload_n (dX9_isMove_1.at 42 rfl) rfl rfl ?_
                  refine sw_imul (dX9_isMove_1.at 43 rfl) ?_
                  refine sw_topI (y := ((14 * l : Nat) : Int)) (by first | rfl | (congr 1)) ?_
                  refine sw_iload (dX9_isMove_1.at 44 rfl) rfl ?_
                  refine sw_iadd (dX9_isMove_1.at 45 rfl) ?_
                  refine sw_topI (y := (((14 * l) + i : Nat) : Int)) (by first | rfl | (congr 1)) ?_
                  refine sw_ialdN ((14 * l) + i) (w := ((rlF P i x l : Nat) : Int)) (dX9_isMove_1.at 46 rfl) (S_lt 62 (by decide)) (S_62 nw nx g) (by decide) hv.2.2.1 (RW_at hRw hv.1 hv.2.1) ?_
                  replace hv := hv.2.2.2
                  refine sw_iload (dX9_isMove_1.at 47 rfl) rfl ?_
                  refine sw_icmpN_eq (rlF P i x l) (rlF P p x k) (tgt := 172) (dX9_isMove_1.at 48 rfl) (by decide) hv.1 hv.2.1 (fun q => ?_) (fun q => ?_)
                  · replace hv := hv.2.2.1 q
                    refine sw_iinc (lo' := [some (vr (49)), some (vi (((k : Nat) : Int))), some (vi (((l : Nat) : Int))), some (vi (((p : Nat) : Int))), some (vi (((mm : Nat) : Int))), some (vi (((wd0 : Nat) : Int))), some (vi (((rlF P p x k : Nat) : Int))), some (vi (((rlF P (p + 1) x k : Nat) : Int))), some (vi (((i + 1 : Nat) : Int))), some (vi (1)), some (vi (((rlF P (p + 1) x k : Nat) : Int))), some (vi (((rlF P p x k : Nat) : Int)))]) (dX9_isMove_2.at 1 rfl) rfl (by decide) rfl ?_
                    refine sw_goto (tgt := 31) (dX9_isMove_2.at 2 rfl) (by decide) ?_
                    exact sw_mask (bs := [true, true, true, true, true, true, true, true, true, false, false, false]) hv
                  · replace hv := hv.2.2.2 q
                    refine sw_iconst (dX9_isMove_1.at 49 rfl) ?_
                    exact sw_zret (dX9_isMove_2.at 0 rfl) rfl (by decide) (Nat.le_refl _) (Nat.le_refl _) hv
              · replace hv := hv.2.2 q
                refine sw_iload (dX9_isMove_1.at 16 rfl) rfl ?_
                refine sw_goto (tgt := 134) (dX9_isMove_1.at 17 rfl) (by decide) ?_
                refine sw_istore (lo' := [some (vr (49)), some (vi (((k : Nat) : Int))), some (vi (((l : Nat) : Int))), some (vi (((p : Nat) : Int))), some (vi (((mm : Nat) : Int))), some (vi (((wd0 : Nat) : Int))), some (vi (((rlF P p x k : Nat) : Int))), some (vi (((rlF P (p + 1) x k : Nat) : Int))), some (vi (((i : Nat) : Int))), some (vi (1)), some (vi (((rlF P (p + 1) x k : Nat) : Int))), some (vi (((rlF P (p + 1) x k : Nat) : Int)))]) (dX9_isMove_1.at 28 rfl) (by decide) rfl ?_
                refine sw_aload_n (dX9_isMove_1.at 29 rfl) rfl rfl ?_
                refine sw_getR (dX9_isMove_1.at 30 rfl) fp_X9_50 (S_lt 49 (by decide)) (S_49 nw nx g) rfl rfl ?_
                refine sw_bipush (dX9_isMove_1.at 31 rfl) (by decide) ?_
                refine sw_iload_n (dX9_isMove_1.at 32 rfl) rfl rfl ?_
                refine sw_imul (dX9_isMove_1.at 33 rfl) ?_
                refine sw_topI (y := ((14 * k : Nat) : Int)) (by first | rfl | (congr 1)) ?_
                refine sw_iload (dX9_isMove_1.at 34 rfl) rfl ?_
                refine sw_iadd (dX9_isMove_1.at 35 rfl) ?_
                refine sw_topI (y := (((14 * k) + i : Nat) : Int)) (by first | rfl | (congr 1)) ?_
                refine sw_ialdN ((14 * k) + i) (w := ((rlF P i x k : Nat) : Int)) (dX9_isMove_1.at 36 rfl) (S_lt 62 (by decide)) (S_62 nw nx g) (by decide) hv.2.2.1 (RW_at hRw hv.1 hv.2.1) ?_
                replace hv := hv.2.2.2
                refine sw_iload (dX9_isMove_1.at 37 rfl) rfl ?_
                refine sw_icmpN_ne (rlF P i x k) (rlF P (p + 1) x k) (tgt := 170) (dX9_isMove_1.at 38 rfl) (by decide) hv.1 hv.2.1 (fun q => ?_) (fun q => ?_)
                · replace hv := hv.2.2.1 q
                  refine sw_iconst (dX9_isMove_1.at 49 rfl) ?_
                  exact sw_zret (dX9_isMove_2.at 0 rfl) rfl (by decide) (Nat.le_refl _) (Nat.le_refl _) hv
                · replace hv := hv.2.2.2 q
                  refine sw_aload_n (dX9_isMove_1.at 39 rfl) rfl rfl ?_
                  refine sw_getR (dX9_isMove_1.at 40 rfl) fp_X9_50 (S_lt 49 (by decide)) (S_49 nw nx g) rfl rfl ?_
                  refine sw_bipush (dX9_isMove_1.at 41 rfl) (by decide) ?_
                  refine sw_iload_n (dX9_isMove_1.at 42 rfl) rfl rfl ?_
                  refine sw_imul (dX9_isMove_1.at 43 rfl) ?_
                  refine sw_topI (y := ((14 * l : Nat) : Int)) (by first | rfl | (congr 1)) ?_
                  refine sw_iload (dX9_isMove_1.at 44 rfl) rfl ?_
                  refine sw_iadd (dX9_isMove_1.at 45 rfl) ?_
                  refine sw_topI (y := (((14 * l) + i : Nat) : Int)) (by first | rfl | (congr 1)) ?_
                  refine sw_ialdN ((14 * l) + i) (w := ((rlF P i x l : Nat) : Int)) (dX9_isMove_1.at 46 rfl) (S_lt 62 (by decide)) (S_62 nw nx g) (by decide) hv.2.2.1 (RW_at hRw hv.1 hv.2.1) ?_
                  replace hv := hv.2.2.2
                  refine sw_iload (dX9_isMove_1.at 47 rfl) rfl ?_
                  refine sw_icmpN_eq (rlF P i x l) (rlF P (p + 1) x k) (tgt := 172) (dX9_isMove_1.at 48 rfl) (by decide) hv.1 hv.2.1 (fun q => ?_) (fun q => ?_)
                  · replace hv := hv.2.2.1 q
                    refine sw_iinc (lo' := [some (vr (49)), some (vi (((k : Nat) : Int))), some (vi (((l : Nat) : Int))), some (vi (((p : Nat) : Int))), some (vi (((mm : Nat) : Int))), some (vi (((wd0 : Nat) : Int))), some (vi (((rlF P p x k : Nat) : Int))), some (vi (((rlF P (p + 1) x k : Nat) : Int))), some (vi (((i + 1 : Nat) : Int))), some (vi (1)), some (vi (((rlF P (p + 1) x k : Nat) : Int))), some (vi (((rlF P (p + 1) x k : Nat) : Int)))]) (dX9_isMove_2.at 1 rfl) rfl (by decide) rfl ?_
                    refine sw_goto (tgt := 31) (dX9_isMove_2.at 2 rfl) (by decide) ?_
                    exact sw_mask (bs := [true, true, true, true, true, true, true, true, true, false, false, false]) hv
                  · replace hv := hv.2.2.2 q
                    refine sw_iconst (dX9_isMove_1.at 49 rfl) ?_
                    exact sw_zret (dX9_isMove_2.at 0 rfl) rfl (by decide) (Nat.le_refl _) (Nat.le_refl _) hv
          · replace hv := hv.2.2 q
            refine sw_iload (dX9_isMove_0.at 45 rfl) rfl ?_
            refine sw_goto (tgt := 96) (dX9_isMove_0.at 46 rfl) (by decide) ?_
            refine sw_istore (lo' := [some (vr (49)), some (vi (((k : Nat) : Int))), some (vi (((l : Nat) : Int))), some (vi (((p : Nat) : Int))), some (vi (((mm : Nat) : Int))), some (vi (((wd0 : Nat) : Int))), some (vi (((rlF P p x k : Nat) : Int))), some (vi (((rlF P (p + 1) x k : Nat) : Int))), some (vi (((i : Nat) : Int))), some (vi (1)), some (vi (((rlF P p x k : Nat) : Int))), none]) (dX9_isMove_1.at 7 rfl) (by decide) rfl ?_
            refine sw_iload (dX9_isMove_1.at 8 rfl) rfl ?_
            refine sw_if_eq (tgt := 122) (dX9_isMove_1.at 9 rfl) (by decide) (by decide) (fun q => ?_) (fun q => ?_)
            · exact absurd q (by decide)
            · clear q
              refine sw_iload (dX9_isMove_1.at 10 rfl) rfl ?_
              refine sw_iload_n (dX9_isMove_1.at 11 rfl) rfl rfl ?_
              refine sw_isub (dX9_isMove_1.at 12 rfl) ?_
              refine sw_topI (y := ((i - p : Nat) : Int)) (congrArg _ (Int.ofNat_sub hv.1).symm) ?_
              replace hv := hv.2
              refine sw_iconst (dX9_isMove_1.at 13 rfl) ?_
              refine sw_iremN (i - p) 2 (dX9_isMove_1.at 14 rfl) (by decide) (by decide) hv.1 ?_
              replace hv := hv.2
              refine sw_ifN_ne ((i - p) % 2) (tgt := 117) (dX9_isMove_1.at 15 rfl) (by decide) hv.1 (fun q => ?_) (fun q => ?_)
              · replace hv := hv.2.1 q
                refine sw_iload (dX9_isMove_1.at 18 rfl) rfl ?_
                refine sw_goto (tgt := 134) (dX9_isMove_1.at 19 rfl) (by decide) ?_
                refine sw_istore (lo' := [some (vr (49)), some (vi (((k : Nat) : Int))), some (vi (((l : Nat) : Int))), some (vi (((p : Nat) : Int))), some (vi (((mm : Nat) : Int))), some (vi (((wd0 : Nat) : Int))), some (vi (((rlF P p x k : Nat) : Int))), some (vi (((rlF P (p + 1) x k : Nat) : Int))), some (vi (((i : Nat) : Int))), some (vi (1)), some (vi (((rlF P p x k : Nat) : Int))), some (vi (((rlF P p x k : Nat) : Int)))]) (dX9_isMove_1.at 28 rfl) (by decide) rfl ?_
                refine sw_aload_n (dX9_isMove_1.at 29 rfl) rfl rfl ?_
                refine sw_getR (dX9_isMove_1.at 30 rfl) fp_X9_50 (S_lt 49 (by decide)) (S_49 nw nx g) rfl rfl ?_
                refine sw_bipush (dX9_isMove_1.at 31 rfl) (by decide) ?_
                refine sw_iload_n (dX9_isMove_1.at 32 rfl) rfl rfl ?_
                refine sw_imul (dX9_isMove_1.at 33 rfl) ?_
                refine sw_topI (y := ((14 * k : Nat) : Int)) (by first | rfl | (congr 1)) ?_
                refine sw_iload (dX9_isMove_1.at 34 rfl) rfl ?_
                refine sw_iadd (dX9_isMove_1.at 35 rfl) ?_
                refine sw_topI (y := (((14 * k) + i : Nat) : Int)) (by first | rfl | (congr 1)) ?_
                refine sw_ialdN ((14 * k) + i) (w := ((rlF P i x k : Nat) : Int)) (dX9_isMove_1.at 36 rfl) (S_lt 62 (by decide)) (S_62 nw nx g) (by decide) hv.2.2.1 (RW_at hRw hv.1 hv.2.1) ?_
                replace hv := hv.2.2.2
                refine sw_iload (dX9_isMove_1.at 37 rfl) rfl ?_
                refine sw_icmpN_ne (rlF P i x k) (rlF P p x k) (tgt := 170) (dX9_isMove_1.at 38 rfl) (by decide) hv.1 hv.2.1 (fun q => ?_) (fun q => ?_)
                · replace hv := hv.2.2.1 q
                  refine sw_iconst (dX9_isMove_1.at 49 rfl) ?_
                  exact sw_zret (dX9_isMove_2.at 0 rfl) rfl (by decide) (Nat.le_refl _) (Nat.le_refl _) hv
                · replace hv := hv.2.2.2 q
                  refine sw_aload_n (dX9_isMove_1.at 39 rfl) rfl rfl ?_
                  refine sw_getR (dX9_isMove_1.at 40 rfl) fp_X9_50 (S_lt 49 (by decide)) (S_49 nw nx g) rfl rfl ?_
                  refine sw_bipush (dX9_isMove_1.at 41 rfl) (by decide) ?_
                  refine sw_iload_n (dX9_isMove_1.at 42 rfl) rfl rfl ?_
                  refine sw_imul (dX9_isMove_1.at 43 rfl) ?_
                  refine sw_topI (y := ((14 * l : Nat) : Int)) (by first | rfl | (congr 1)) ?_
                  refine sw_iload (dX9_isMove_1.at 44 rfl) rfl ?_
                  refine sw_iadd (dX9_isMove_1.at 45 rfl) ?_
                  refine sw_topI (y := (((14 * l) + i : Nat) : Int)) (by first | rfl | (congr 1)) ?_
                  refine sw_ialdN ((14 * l) + i) (w := ((rlF P i x l : Nat) : Int)) (dX9_isMove_1.at 46 rfl) (S_lt 62 (by decide)) (S_62 nw nx g) (by decide) hv.2.2.1 (RW_at hRw hv.1 hv.2.1) ?_
                  replace hv := hv.2.2.2
                  refine sw_iload (dX9_isMove_1.at 47 rfl) rfl ?_
                  refine sw_icmpN_eq (rlF P i x l) (rlF P p x k) (tgt := 172) (dX9_isMove_1.at 48 rfl) (by decide) hv.1 hv.2.1 (fun q => ?_) (fun q => ?_)
                  · replace hv := hv.2.2.1 q
                    refine sw_iinc (lo' := [some (vr (49)), some (vi (((k : Nat) : Int))), some (vi (((l : Nat) : Int))), some (vi (((p : Nat) : Int))), some (vi (((mm : Nat) : Int))), some (vi (((wd0 : Nat) : Int))), some (vi (((rlF P p x k : Nat) : Int))), some (vi (((rlF P (p + 1) x k : Nat) : Int))), some (vi (((i + 1 : Nat) : Int))), some (vi (1)), some (vi (((rlF P p x k : Nat) : Int))), some (vi (((rlF P p x k : Nat) : Int)))]) (dX9_isMove_2.at 1 rfl) rfl (by decide) rfl ?_
                    refine sw_goto (tgt := 31) (dX9_isMove_2.at 2 rfl) (by decide) ?_
                    exact sw_mask (bs := [true, true, true, true, true, true, true, true, true, false, false, false]) hv
                  · replace hv := hv.2.2.2 q
                    refine sw_iconst (dX9_isMove_1.at 49 rfl) ?_
                    exact sw_zret (dX9_isMove_2.at 0 rfl) rfl (by decide) (Nat.le_refl _) (Nat.le_refl _) hv
              · replace hv := hv.2.2 q
                refine sw_iload (dX9_isMove_1.at 16 rfl) rfl ?_
                refine sw_goto (tgt := 134) (dX9_isMove_1.at 17 rfl) (by decide) ?_
                refine sw_istore (lo' := [some (vr (49)), some (vi (((k : Nat) : Int))), some (vi (((l : Nat) : Int))), some (vi (((p : Nat) : Int))), some (vi (((mm : Nat) : Int))), some (vi (((wd0 : Nat) : Int))), some (vi (((rlF P p x k : Nat) : Int))), some (vi (((rlF P (p + 1) x k : Nat) : Int))), some (vi (((i : Nat) : Int))), some (vi (1)), some (vi (((rlF P p x k : Nat) : Int))), some (vi (((rlF P (p + 1) x k : Nat) : Int)))]) (dX9_isMove_1.at 28 rfl) (by decide) rfl ?_
                refine sw_aload_n (dX9_isMove_1.at 29 rfl) rfl rfl ?_
                refine sw_getR (dX9_isMove_1.at 30 rfl) fp_X9_50 (S_lt 49 (by decide)) (S_49 nw nx g) rfl rfl ?_
                refine sw_bipush (dX9_isMove_1.at 31 rfl) (by decide) ?_
                refine sw_iload_n (dX9_isMove_1.at 32 rfl) rfl rfl ?_
                refine sw_imul (dX9_isMove_1.at 33 rfl) ?_
                refine sw_topI (y := ((14 * k : Nat) : Int)) (by first | rfl | (congr 1)) ?_
                refine sw_iload (dX9_isMove_1.at 34 rfl) rfl ?_
                refine sw_iadd (dX9_isMove_1.at 35 rfl) ?_
                refine sw_topI (y := (((14 * k) + i : Nat) : Int)) (by first | rfl | (congr 1)) ?_
                refine sw_ialdN ((14 * k) + i) (w := ((rlF P i x k : Nat) : Int)) (dX9_isMove_1.at 36 rfl) (S_lt 62 (by decide)) (S_62 nw nx g) (by decide) hv.2.2.1 (RW_at hRw hv.1 hv.2.1) ?_
                replace hv := hv.2.2.2
                refine sw_iload (dX9_isMove_1.at 37 rfl) rfl ?_
                refine sw_icmpN_ne (rlF P i x k) (rlF P p x k) (tgt := 170) (dX9_isMove_1.at 38 rfl) (by decide) hv.1 hv.2.1 (fun q => ?_) (fun q => ?_)
                · replace hv := hv.2.2.1 q
                  refine sw_iconst (dX9_isMove_1.at 49 rfl) ?_
                  exact sw_zret (dX9_isMove_2.at 0 rfl) rfl (by decide) (Nat.le_refl _) (Nat.le_refl _) hv
                · replace hv := hv.2.2.2 q
                  refine sw_aload_n (dX9_isMove_1.at 39 rfl) rfl rfl ?_
                  refine sw_getR (dX9_isMove_1.at 40 rfl) fp_X9_50 (S_lt 49 (by decide)) (S_49 nw nx g) rfl rfl ?_
                  refine sw_bipush (dX9_isMove_1.at 41 rfl) (by decide) ?_
                  refine sw_iload_n (dX9_isMove_1.at 42 rfl) rfl rfl ?_
                  refine sw_imul (dX9_isMove_1.at 43 rfl) ?_
                  refine sw_topI (y := ((14 * l : Nat) : Int)) (by first | rfl | (congr 1)) ?_
                  refine sw_iload (dX9_isMove_1.at 44 rfl) rfl ?_
                  refine sw_iadd (dX9_isMove_1.at 45 rfl) ?_
                  refine sw_topI (y := (((14 * l) + i : Nat) : Int)) (by first | rfl | (congr 1)) ?_
                  refine sw_ialdN ((14 * l) + i) (w := ((rlF P i x l : Nat) : Int)) (dX9_isMove_1.at 46 rfl) (S_lt 62 (by decide)) (S_62 nw nx g) (by decide) hv.2.2.1 (RW_at hRw hv.1 hv.2.1) ?_
                  replace hv := hv.2.2.2
                  refine sw_iload (dX9_isMove_1.at 47 rfl) rfl ?_
                  refine sw_icmpN_eq (rlF P i x l) (rlF P (p + 1) x k) (tgt := 172) (dX9_isMove_1.at 48 rfl) (by decide) hv.1 hv.2.1 (fun q => ?_) (fun q => ?_)
                  · replace hv := hv.2.2.1 q
                    refine sw_iinc (lo' := [some (vr (49)), some (vi (((k : Nat) : Int))), some (vi (((l : Nat) : Int))), some (vi (((p : Nat) : Int))), some (vi (((mm : Nat) : Int))), some (vi (((wd0 : Nat) : Int))), some (vi (((rlF P p x k : Nat) : Int))), some (vi (((rlF P (p + 1) x k : Nat) : Int))), some (vi (((i + 1 : Nat) : Int))), some (vi (1)), some (vi (((rlF P p x k : Nat) : Int))), some (vi (((rlF P (p + 1) x k : Nat) : Int)))]) (dX9_isMove_2.at 1 rfl) rfl (by decide) rfl ?_
                    refine sw_goto (tgt := 31) (dX9_isMove_2.at 2 rfl) (by decide) ?_
                    exact sw_mask (bs := [true, true, true, true, true, true, true, true, true, false, false, false]) hv
                  · replace hv := hv.2.2.2 q
                    refine sw_iconst (dX9_isMove_1.at 49 rfl) ?_
                    exact sw_zret (dX9_isMove_2.at 0 rfl) rfl (by decide) (Nat.le_refl _) (Nat.le_refl _) hv

set_option maxHeartbeats 2000000 in
set_option maxRecDepth 20000 in
theorem g_X9_isMove_0 {G : GG} {j nw nx gn : Nat} {g : Nat → Sh} {c : Nat → Nat → Int} {post : Option AV → AM → Prop} {k : Nat} {l : Nat} {p : Nat} {mm : Nat} {wd0 : Nat} {P : GD} {x : Nat} (hM : ML c P) (hV : GV P) (hRw : RWS P x c)  (hv : (k < gW P x) ∧ (p < gL P x) ∧ ((14 * k) + p < 4200) ∧ ((k < gW P x) ∧ ((p + 1) < gL P x) ∧ (((14 * k) + p) + 1 < 4200) ∧ (SW G (j + 0) mX9_isMove 31 [some (vr (49)), some (vi (((k : Nat) : Int))), some (vi (((l : Nat) : Int))), some (vi (((p : Nat) : Int))), some (vi (((mm : Nat) : Int))), some (vi (((wd0 : Nat) : Int))), some (vi (((rlF P p x k : Nat) : Int))), some (vi (((rlF P (p + 1) x k : Nat) : Int))), some (vi (0)), none, none, none] [] (S nw nx g, 78 + gn, c) B0 post))) :
    SW G (j + 0) mX9_isMove 0 [some (vr (49)), some (vi (((k : Nat) : Int))), some (vi (((l : Nat) : Int))), some (vi (((p : Nat) : Int))), some (vi (((mm : Nat) : Int))), some (vi (((wd0 : Nat) : Int))), none, none, none, none, none, none] [] (S nw nx g, 78 + gn, c) B0 post := by
  refine sw_aload_n (dX9_isMove_0.at 0 rfl) rfl rfl ?_
  refine sw_getR (dX9_isMove_0.at 1 rfl) fp_X9_50 (S_lt 49 (by decide)) (S_49 nw nx g) rfl rfl ?_
  refine sw_bipush (dX9_isMove_0.at 2 rfl) (by decide) ?_
  refine sw_iload_n (dX9_isMove_0.at 3 rfl) rfl rfl ?_
  refine sw_imul (dX9_isMove_0.at 4 rfl) ?_
  refine sw_topI (y := ((14 * k : Nat) : Int)) (by first | rfl | (congr 1)) ?_
  refine sw_iload_n (dX9_isMove_0.at 5 rfl) rfl rfl ?_
  refine sw_iadd (dX9_isMove_0.at 6 rfl) ?_
  refine sw_topI (y := (((14 * k) + p : Nat) : Int)) (by first | rfl | (congr 1)) ?_
  refine sw_ialdN ((14 * k) + p) (w := ((rlF P p x k : Nat) : Int)) (dX9_isMove_0.at 7 rfl) (S_lt 62 (by decide)) (S_62 nw nx g) (by decide) hv.2.2.1 (RW_at hRw hv.1 hv.2.1) ?_
  replace hv := hv.2.2.2
  refine sw_istore (lo' := [some (vr (49)), some (vi (((k : Nat) : Int))), some (vi (((l : Nat) : Int))), some (vi (((p : Nat) : Int))), some (vi (((mm : Nat) : Int))), some (vi (((wd0 : Nat) : Int))), some (vi (((rlF P p x k : Nat) : Int))), none, none, none, none, none]) (dX9_isMove_0.at 8 rfl) (by decide) rfl ?_
  refine sw_aload_n (dX9_isMove_0.at 9 rfl) rfl rfl ?_
  refine sw_getR (dX9_isMove_0.at 10 rfl) fp_X9_50 (S_lt 49 (by decide)) (S_49 nw nx g) rfl rfl ?_
  refine sw_bipush (dX9_isMove_0.at 11 rfl) (by decide) ?_
  refine sw_iload_n (dX9_isMove_0.at 12 rfl) rfl rfl ?_
  refine sw_imul (dX9_isMove_0.at 13 rfl) ?_
  refine sw_topI (y := ((14 * k : Nat) : Int)) (by first | rfl | (congr 1)) ?_
  refine sw_iload_n (dX9_isMove_0.at 14 rfl) rfl rfl ?_
  refine sw_iadd (dX9_isMove_0.at 15 rfl) ?_
  refine sw_topI (y := (((14 * k) + p : Nat) : Int)) (by first | rfl | (congr 1)) ?_
  refine sw_iconst (dX9_isMove_0.at 16 rfl) ?_
  refine sw_iadd (dX9_isMove_0.at 17 rfl) ?_
  refine sw_topI (y := ((((14 * k) + p) + 1 : Nat) : Int)) (by first | rfl | (congr 1)) ?_
  refine sw_ialdN (((14 * k) + p) + 1) (w := ((rlF P (p + 1) x k : Nat) : Int)) (dX9_isMove_0.at 18 rfl) (S_lt 62 (by decide)) (S_62 nw nx g) (by decide) hv.2.2.1 (RW_at hRw hv.1 hv.2.1) ?_
  replace hv := hv.2.2.2
  refine sw_istore (lo' := [some (vr (49)), some (vi (((k : Nat) : Int))), some (vi (((l : Nat) : Int))), some (vi (((p : Nat) : Int))), some (vi (((mm : Nat) : Int))), some (vi (((wd0 : Nat) : Int))), some (vi (((rlF P p x k : Nat) : Int))), some (vi (((rlF P (p + 1) x k : Nat) : Int))), none, none, none, none]) (dX9_isMove_0.at 19 rfl) (by decide) rfl ?_
  refine sw_iconst (dX9_isMove_0.at 20 rfl) ?_
  refine sw_istore (lo' := [some (vr (49)), some (vi (((k : Nat) : Int))), some (vi (((l : Nat) : Int))), some (vi (((p : Nat) : Int))), some (vi (((mm : Nat) : Int))), some (vi (((wd0 : Nat) : Int))), some (vi (((rlF P p x k : Nat) : Int))), some (vi (((rlF P (p + 1) x k : Nat) : Int))), some (vi (0)), none, none, none]) (dX9_isMove_0.at 21 rfl) (by decide) rfl ?_
  exact hv

set_option maxHeartbeats 4000000 in
theorem lp_X9_isMove_31 {G : GG} {j nw nx gn : Nat} {g : Nat → Sh} {c : Nat → Nat → Int} {post : Option AV → AM → Prop} {P : GD} {x k l p mm : Nat} (hM : ML c P) (hV : GV P) (hRw : RWS P x c) (hx : x < gN P) (hk : k < gW P x) (hl : l < gW P x) (hp : p + 1 < gL P x) (hm : mm ≤ 20) : ∀ (f i : Nat), i + f = gL P x → post (some (vi (bz (isM P x k l p mm f i)))) (S nw nx g, 78 + gn, c) → SW G (j + 0) mX9_isMove 31 [some (vr (49)), some (vi (((k : Nat) : Int))), some (vi (((l : Nat) : Int))), some (vi (((p : Nat) : Int))), some (vi (((mm : Nat) : Int))), some (vi (((gL P x : Nat) : Int))), some (vi (((rlF P p x k : Nat) : Int))), some (vi (((rlF P (p + 1) x k : Nat) : Int))), some (vi (((i : Nat) : Int))), none, none, none] [] (S nw nx g, 78 + gn, c) B0 post := by
  have h60 := GV_N hV
  have h5 := GV_R hV
  have l13 := (hV.2.2.1 x hx).1
  have w9 := (hV.2.2.1 x hx).2.2.2.2.2.2.2.1
  have hR0 : 0 < gR P := by have := hV.1.2.2.2; omega
  have r1 := rl_lt hR0 p x k
  have r2 := rl_lt hR0 (p + 1) x k
  intro f
  induction f with
  | zero =>
    intro i hi K
    rw [isM] at K
    refine g_X9_isMove_31 hM hV hRw ?_
    refine ⟨?_, ?_, ⟨fun q => ?_, fun q => ⟨?_, ?_, ⟨fun q => ⟨?_, ?_, ?_, ⟨?_, ?_, ?_, ⟨?_, ?_, ?_, ⟨?_, ?_, ⟨fun q => ?_, fun q => ⟨?_, ?_, ?_, ⟨?_, ?_, ⟨fun q => ?_, fun q => ?_⟩⟩⟩⟩⟩⟩⟩⟩, fun q => ⟨?_, ?_, ⟨fun q => ⟨?_, ?_, ?_, ⟨?_, ?_, ?_, ⟨?_, ?_, ?_, ⟨?_, ?_, ⟨fun q => ?_, fun q => ⟨?_, ?_, ?_, ⟨?_, ?_, ⟨fun q => ?_, fun q => ?_⟩⟩⟩⟩⟩⟩⟩⟩, fun q => ⟨?_, ⟨?_, ⟨?_, ⟨fun q => ⟨?_, ⟨?_, ⟨?_, ⟨fun q => ⟨?_, ?_, ?_, ⟨?_, ?_, ⟨fun q => ?_, fun q => ⟨?_, ?_, ?_, ⟨?_, ?_, ⟨fun q => ?_, fun q => ?_⟩⟩⟩⟩⟩⟩, fun q => ⟨?_, ?_, ?_, ⟨?_, ?_, ⟨fun q => ?_, fun q => ⟨?_, ?_, ?_, ⟨?_, ?_, ⟨fun q => ?_, fun q => ?_⟩⟩⟩⟩⟩⟩⟩⟩⟩⟩, fun q => ⟨?_, ⟨?_, ⟨?_, ⟨fun q => ⟨?_, ?_, ?_, ⟨?_, ?_, ⟨fun q => ?_, fun q => ⟨?_, ?_, ?_, ⟨?_, ?_, ⟨fun q => ?_, fun q => ?_⟩⟩⟩⟩⟩⟩, fun q => ⟨?_, ?_, ?_, ⟨?_, ?_, ⟨fun q => ?_, fun q => ⟨?_, ?_, ?_, ⟨?_, ?_, ⟨fun q => ?_, fun q => ?_⟩⟩⟩⟩⟩⟩⟩⟩⟩⟩⟩⟩⟩⟩⟩⟩⟩⟩⟩⟩
    all_goals first | omega | exact K | (exfalso; omega)
  | succ f ih =>
    intro i hi K
    have r3 := rl_lt hR0 i x k
    have r4 := rl_lt hR0 i x l
    rw [isM] at K
    have KT : mvC P x k l p mm i = true → _ := fun h => ih (i + 1) (by omega) (by rw [h, Bool.true_and] at K; exact K)
    have KF : mvC P x k l p mm i = false → post (some (vi 0)) (S nw nx g, 78 + gn, c) := fun h => by rw [h, Bool.false_and] at K; exact K
    refine g_X9_isMove_31 hM hV hRw ?_
    refine ⟨?_, ?_, ⟨fun q => ?_, fun q => ⟨?_, ?_, ⟨fun q => ⟨?_, ?_, ?_, ⟨?_, ?_, ?_, ⟨?_, ?_, ?_, ⟨?_, ?_, ⟨fun q => ?_, fun q => ⟨?_, ?_, ?_, ⟨?_, ?_, ⟨fun q => ?_, fun q => ?_⟩⟩⟩⟩⟩⟩⟩⟩, fun q => ⟨?_, ?_, ⟨fun q => ⟨?_, ?_, ?_, ⟨?_, ?_, ?_, ⟨?_, ?_, ?_, ⟨?_, ?_, ⟨fun q => ?_, fun q => ⟨?_, ?_, ?_, ⟨?_, ?_, ⟨fun q => ?_, fun q => ?_⟩⟩⟩⟩⟩⟩⟩⟩, fun q => ⟨?_, ⟨?_, ⟨?_, ⟨fun q => ⟨?_, ⟨?_, ⟨?_, ⟨fun q => ⟨?_, ?_, ?_, ⟨?_, ?_, ⟨fun q => ?_, fun q => ⟨?_, ?_, ?_, ⟨?_, ?_, ⟨fun q => ?_, fun q => ?_⟩⟩⟩⟩⟩⟩, fun q => ⟨?_, ?_, ?_, ⟨?_, ?_, ⟨fun q => ?_, fun q => ⟨?_, ?_, ?_, ⟨?_, ?_, ⟨fun q => ?_, fun q => ?_⟩⟩⟩⟩⟩⟩⟩⟩⟩⟩, fun q => ⟨?_, ⟨?_, ⟨?_, ⟨fun q => ⟨?_, ?_, ?_, ⟨?_, ?_, ⟨fun q => ?_, fun q => ⟨?_, ?_, ?_, ⟨?_, ?_, ⟨fun q => ?_, fun q => ?_⟩⟩⟩⟩⟩⟩, fun q => ⟨?_, ?_, ?_, ⟨?_, ?_, ⟨fun q => ?_, fun q => ⟨?_, ?_, ?_, ⟨?_, ?_, ⟨fun q => ?_, fun q => ?_⟩⟩⟩⟩⟩⟩⟩⟩⟩⟩⟩⟩⟩⟩⟩⟩⟩⟩⟩⟩
    all_goals first | omega | (exfalso; omega) | (refine KT ?_; simp [mvC, *]; done) | (refine KF ?_; simp [mvC, *]; done) | (refine KT ?_; have a1 : ¬ (p ≤ i ∧ i < p + mm) := (by omega); simp [mvC, a1, *]; done) | (refine KF ?_; have a1 : ¬ (p ≤ i ∧ i < p + mm) := (by omega); simp [mvC, a1, *]; done) | (refine KT ?_; have a1 : (p ≤ i ∧ i < p + mm) := (by omega); have a2 : ¬ (i - p) % 2 = 0 := (by omega); simp [mvC, a1, a2, *]; done) | (refine KF ?_; have a1 : (p ≤ i ∧ i < p + mm) := (by omega); have a2 : ¬ (i - p) % 2 = 0 := (by omega); simp [mvC, a1, a2, *]; done) | (refine KT ?_; have a1 : (p ≤ i ∧ i < p + mm) := (by omega); have a2 : (i - p) % 2 = 0 := (by omega); simp [mvC, a1, a2, *]; done) | (refine KF ?_; have a1 : (p ≤ i ∧ i < p + mm) := (by omega); have a2 : (i - p) % 2 = 0 := (by omega); simp [mvC, a1, a2, *]; done)

theorem RWS_wr {P : GD} {x : Nat} {c : Nat → Nat → Int} {F : Nat → Int} (h : RWS P x c) : RWS P x (wr c 63 F) := by
  refine ⟨?_, fun k i hk hi => ?_⟩
  · rw [wr_off (by decide)]; exact h.1
  · rw [wr_off (by decide)]; exact h.2 k i hk hi
theorem gBd_le {P : GD} (hV : GV P) {s t : Nat} (hs : s < gR P) (ht : t < gR P) : gBd P s t ≤ 12 := by
  rw [gBd]
  split
  · omega
  · exact hV.2.1 s t hs ht
set_option maxHeartbeats 2000000 in
theorem c_X9_isMove {G : GG} {j nw nx gn : Nat} {g : Nat → Sh} {c : Nat → Nat → Int} {post : Option AV → AM → Prop} {P : GD} {x : Nat} {k : Nat} {l : Nat} {p : Nat} {mm : Nat} {wd0 : Nat} (hM : ML c P) (hV : GV P) (hRw : RWS P x c) (p1 : x < gN P) (p2 : k < gW P x) (p3 : l < gW P x) (p4 : p + 1 < gL P x) (p5 : mm ≤ 20) (p6 : wd0 = gL P x) (K : post (some (vi (bz (isM P x k l p mm (gL P x) 0)))) (S nw nx g, 78 + gn, c)) : SM G (j + 1) mX9_isMove [vr (49), vi (((k : Nat) : Int)), vi (((l : Nat) : Int)), vi (((p : Nat) : Int)), vi (((mm : Nat) : Int)), vi (((wd0 : Nat) : Int))] (S nw nx g, 78 + gn, c) 0 0 post := by
  refine sm_of wX9_isMove rfl (Nat.le_of_ble_eq_true rfl) ?_
  have l13 := (hV.2.2.1 x p1).1
  have w9 := (hV.2.2.1 x p1).2.2.2.2.2.2.2.1
  subst p6
  refine g_X9_isMove_0 hM hV hRw ?_
  refine ⟨?_, ?_, ?_, ⟨?_, ?_, ?_, ?_⟩⟩
  all_goals first | assumption | omega | exact lp_X9_isMove_31 hM hV hRw p1 p2 p3 p4 p5 (gL P x) 0 (by omega) K

set_option maxHeartbeats 2000000 in
set_option maxRecDepth 20000 in
theorem g_X9_areNear_3 {G : GG} {j nw nx gn : Nat} {g : Nat → Sh} {c : Nat → Nat → Int} {post : Option AV → AM → Prop} {k : Nat} {l : Nat} {wd0 : Nat} {P : GD} {x : Nat} {p : Nat} (hM : ML c P) (hV : GV P) (hRw : RWS P x c)  (hv : (p + 1 < 2147483648) ∧ (wd0 < 2147483648) ∧ (((wd0 ≤ p + 1) → post (some (vi (0))) (S nw nx g, 78 + gn, c)) ∧ ((¬ (wd0 ≤ p + 1)) → (k < gW P x) ∧ (p < gL P x) ∧ ((14 * k) + p < 4200) ∧ ((k < gW P x) ∧ ((p + 1) < gL P x) ∧ (((14 * k) + p) + 1 < 4200) ∧ (((rlF P p x k) < gR P) ∧ ((rlF P (p + 1) x k) < gR P) ∧ ((p + (gBd P (rlF P p x k) (rlF P (p + 1) x k)) < 2147483648) ∧ (wd0 < 2147483648) ∧ (((wd0 < p + (gBd P (rlF P p x k) (rlF P (p + 1) x k))) → SW G (j + 1) mX9_areNear 3 [some (vr (49)), some (vi (((k : Nat) : Int))), some (vi (((l : Nat) : Int))), some (vi (((wd0 : Nat) : Int))), some (vi (((p + 1 : Nat) : Int))), none] [] (S nw nx g, 78 + gn, c) B0 post) ∧ ((¬ (wd0 < p + (gBd P (rlF P p x k) (rlF P (p + 1) x k)))) → (x < gN P) ∧ (k < gW P x) ∧ (l < gW P x) ∧ (p + 1 < gL P x) ∧ ((gBd P (rlF P p x k) (rlF P (p + 1) x k)) ≤ 20) ∧ (wd0 = gL P x) ∧ ((((isM P x k l p (gBd P (rlF P p x k) (rlF P (p + 1) x k)) (gL P x) 0) = false) → SW G (j + 1) mX9_areNear 3 [some (vr (49)), some (vi (((k : Nat) : Int))), some (vi (((l : Nat) : Int))), some (vi (((wd0 : Nat) : Int))), some (vi (((p + 1 : Nat) : Int))), none] [] (S nw nx g, 78 + gn, c) B0 post) ∧ (((isM P x k l p (gBd P (rlF P p x k) (rlF P (p + 1) x k)) (gL P x) 0) = true) → post (some (vi (1))) (S nw nx g, 78 + gn, c))))))))))) :
    SW G (j + 1) mX9_areNear 3 [some (vr (49)), some (vi (((k : Nat) : Int))), some (vi (((l : Nat) : Int))), some (vi (((wd0 : Nat) : Int))), some (vi (((p : Nat) : Int))), none] [] (S nw nx g, 78 + gn, c) B0 post := by
  refine sw_iload (dX9_areNear.at 2 rfl) rfl ?_
  refine sw_iconst (dX9_areNear.at 3 rfl) ?_
  refine sw_iadd (dX9_areNear.at 4 rfl) ?_
  refine sw_topI (y := ((p + 1 : Nat) : Int)) (by first | rfl | (congr 1)) ?_
  refine sw_iload_n (dX9_areNear.at 5 rfl) rfl rfl ?_
  refine sw_icmpN_ge (p + 1) wd0 (tgt := 78) (dX9_areNear.at 6 rfl) (by decide) hv.1 hv.2.1 (fun q => ?_) (fun q => ?_)
  · replace hv := hv.2.2.1 q
    refine sw_iconst (dX9_areNear.at 49 rfl) ?_
    exact sw_zret (dX9_areNear.at 50 rfl) rfl (by decide) (Nat.le_refl _) (Nat.le_refl _) hv
  · replace hv := hv.2.2.2 q
    refine sw_aload_n (dX9_areNear.at 7 rfl) rfl rfl ?_
    refine sw_getR (dX9_areNear.at 8 rfl) fp_X9_17 (S_lt 49 (by decide)) (S_49 nw nx g) rfl rfl ?_
    refine sw_iconst (dX9_areNear.at 9 rfl) ?_
    refine sw_aload_n (dX9_areNear.at 10 rfl) rfl rfl ?_
    refine sw_getR (dX9_areNear.at 11 rfl) fp_X9_50 (S_lt 49 (by decide)) (S_49 nw nx g) rfl rfl ?_
    refine sw_bipush (dX9_areNear.at 12 rfl) (by decide) ?_
    refine sw_iload_n (dX9_areNear.at 13 rfl) rfl rfl ?_
    refine sw_imul (dX9_areNear.at 14 rfl) ?_
    refine sw_topI (y := ((14 * k : Nat) : Int)) (by first | rfl | (congr 1)) ?_
    refine sw_iload (dX9_areNear.at 15 rfl) rfl ?_
    refine sw_iadd (dX9_areNear.at 16 rfl) ?_
    refine sw_topI (y := (((14 * k) + p : Nat) : Int)) (by first | rfl | (congr 1)) ?_
    refine sw_ialdN ((14 * k) + p) (w := ((rlF P p x k : Nat) : Int)) (dX9_areNear.at 17 rfl) (S_lt 62 (by decide)) (S_62 nw nx g) (by decide) hv.2.2.1 (RW_at hRw hv.1 hv.2.1) ?_
    replace hv := hv.2.2.2
    refine sw_imul (dX9_areNear.at 18 rfl) ?_
    refine sw_topI (y := ((5 * (rlF P p x k) : Nat) : Int)) (by first | rfl | (congr 1)) ?_
    refine sw_aload_n (dX9_areNear.at 19 rfl) rfl rfl ?_
    refine sw_getR (dX9_areNear.at 20 rfl) fp_X9_50 (S_lt 49 (by decide)) (S_49 nw nx g) rfl rfl ?_
    refine sw_bipush (dX9_areNear.at 21 rfl) (by decide) ?_
    refine sw_iload_n (dX9_areNear.at 22 rfl) rfl rfl ?_
    refine sw_imul (dX9_areNear.at 23 rfl) ?_
    refine sw_topI (y := ((14 * k : Nat) : Int)) (by first | rfl | (congr 1)) ?_
    refine sw_iload (dX9_areNear.at 24 rfl) rfl ?_
    refine sw_iadd (dX9_areNear.at 25 rfl) ?_
    refine sw_topI (y := (((14 * k) + p : Nat) : Int)) (by first | rfl | (congr 1)) ?_
    refine sw_iconst (dX9_areNear.at 26 rfl) ?_
    refine sw_iadd (dX9_areNear.at 27 rfl) ?_
    refine sw_topI (y := ((((14 * k) + p) + 1 : Nat) : Int)) (by first | rfl | (congr 1)) ?_
    refine sw_ialdN (((14 * k) + p) + 1) (w := ((rlF P (p + 1) x k : Nat) : Int)) (dX9_areNear.at 28 rfl) (S_lt 62 (by decide)) (S_62 nw nx g) (by decide) hv.2.2.1 (RW_at hRw hv.1 hv.2.1) ?_
    replace hv := hv.2.2.2
    refine sw_iadd (dX9_areNear.at 29 rfl) ?_
    refine sw_topI (y := (((5 * (rlF P p x k)) + (rlF P (p + 1) x k) : Nat) : Int)) (by first | rfl | (congr 1)) ?_
    refine sw_ialdN ((5 * (rlF P p x k)) + (rlF P (p + 1) x k)) (w := ((gBd P (rlF P p x k) (rlF P (p + 1) x k) : Nat) : Int)) (dX9_areNear.at 30 rfl) (S_lt 51 (by decide)) (S_51 nw nx g) (by decide) (GV_5r hV hv.1 hv.2.1) (ML_B hM hv.1 hv.2.1) ?_
    replace hv := hv.2.2
    refine sw_istore (lo' := [some (vr (49)), some (vi (((k : Nat) : Int))), some (vi (((l : Nat) : Int))), some (vi (((wd0 : Nat) : Int))), some (vi (((p : Nat) : Int))), some (vi (((gBd P (rlF P p x k) (rlF P (p + 1) x k) : Nat) : Int)))]) (dX9_areNear.at 31 rfl) (by decide) rfl ?_
    refine sw_iload (dX9_areNear.at 32 rfl) rfl ?_
    refine sw_iload (dX9_areNear.at 33 rfl) rfl ?_
    refine sw_iadd (dX9_areNear.at 34 rfl) ?_
    refine sw_topI (y := ((p + (gBd P (rlF P p x k) (rlF P (p + 1) x k)) : Nat) : Int)) (by first | rfl | (congr 1)) ?_
    refine sw_iload_n (dX9_areNear.at 35 rfl) rfl rfl ?_
    refine sw_icmpN_gt (p + (gBd P (rlF P p x k) (rlF P (p + 1) x k))) wd0 (tgt := 72) (dX9_areNear.at 36 rfl) (by decide) hv.1 hv.2.1 (fun q => ?_) (fun q => ?_)
    · replace hv := hv.2.2.1 q
      refine sw_iinc (lo' := [some (vr (49)), some (vi (((k : Nat) : Int))), some (vi (((l : Nat) : Int))), some (vi (((wd0 : Nat) : Int))), some (vi (((p + 1 : Nat) : Int))), some (vi (((gBd P (rlF P p x k) (rlF P (p + 1) x k) : Nat) : Int)))]) (dX9_areNear.at 47 rfl) rfl (by decide) rfl ?_
      refine sw_goto (tgt := 3) (dX9_areNear.at 48 rfl) (by decide) ?_
      exact sw_mask (bs := [true, true, true, true, true, false]) hv
    · replace hv := hv.2.2.2 q
      refine sw_aload_n (dX9_areNear.at 37 rfl) rfl rfl ?_
      refine sw_iload_n (dX9_areNear.at 38 rfl) rfl rfl ?_
      refine sw_iload_n (dX9_areNear.at 39 rfl) rfl rfl ?_
      refine sw_iload (dX9_areNear.at 40 rfl) rfl ?_
      refine sw_iload (dX9_areNear.at 41 rfl) rfl ?_
      refine sw_iload_n (dX9_areNear.at 42 rfl) rfl rfl ?_
      refine sw_callV (B' := B0) (As := [vi (((k : Nat) : Int)), vi (((l : Nat) : Int)), vi (((p : Nat) : Int)), vi (((gBd P (rlF P p x k) (rlF P (p + 1) x k) : Nat) : Int)), vi (((wd0 : Nat) : Int))]) (mc := 0) (ms := 0) (dX9_areNear.at 43 rfl) lk_X9_270 (S_lt 49 (by decide)) (S_49 nw nx g) rfl rfl (Nat.le_of_ble_eq_true rfl) rfl (Nat.le_refl _) (Nat.le_refl _) ?_
      refine c_X9_isMove (k := k) (l := l) (p := p) (mm := (gBd P (rlF P p x k) (rlF P (p + 1) x k))) (wd0 := wd0) (j := j + 0) hM hV hRw hv.1 hv.2.1 hv.2.2.1 hv.2.2.2.1 hv.2.2.2.2.1 hv.2.2.2.2.2.1 ?_
      replace hv := hv.2.2.2.2.2.2
      refine sw_if_eq (tgt := 72) (dX9_areNear.at 44 rfl) (by decide) (bz_rng _) (fun q => ?_) (fun q => ?_)
      · replace hv := hv.1 (bz_0 q)
        refine sw_iinc (lo' := [some (vr (49)), some (vi (((k : Nat) : Int))), some (vi (((l : Nat) : Int))), some (vi (((wd0 : Nat) : Int))), some (vi (((p + 1 : Nat) : Int))), some (vi (((gBd P (rlF P p x k) (rlF P (p + 1) x k) : Nat) : Int)))]) (dX9_areNear.at 47 rfl) rfl (by decide) rfl ?_
        refine sw_goto (tgt := 3) (dX9_areNear.at 48 rfl) (by decide) ?_
        exact sw_mask (bs := [true, true, true, true, true, false]) hv
      · replace hv := hv.2 (bz_n0 q)
        refine sw_iconst (dX9_areNear.at 45 rfl) ?_
        exact sw_zret (dX9_areNear.at 46 rfl) rfl (by decide) (Nat.le_refl _) (Nat.le_refl _) hv

set_option maxHeartbeats 4000000 in
theorem lp_X9_areNear_3 {G : GG} {j nw nx gn : Nat} {g : Nat → Sh} {c : Nat → Nat → Int} {post : Option AV → AM → Prop} {P : GD} {x k l : Nat} (hM : ML c P) (hV : GV P) (hRw : RWS P x c) (hx : x < gN P) (hk : k < gW P x) (hl : l < gW P x) : ∀ (f p : Nat), p + f = gL P x - 1 → post (some (vi (bz (anM P x k l f p)))) (S nw nx g, 78 + gn, c) → SW G (j + 1) mX9_areNear 3 [some (vr (49)), some (vi (((k : Nat) : Int))), some (vi (((l : Nat) : Int))), some (vi (((gL P x : Nat) : Int))), some (vi (((p : Nat) : Int))), none] [] (S nw nx g, 78 + gn, c) B0 post := by
  have h60 := GV_N hV
  have h5 := GV_R hV
  have l13 := (hV.2.2.1 x hx).1
  have w9 := (hV.2.2.1 x hx).2.2.2.2.2.2.2.1
  have hR0 : 0 < gR P := by have := hV.1.2.2.2; omega
  intro f
  induction f with
  | zero =>
    intro p hp K
    rw [anM] at K
    refine g_X9_areNear_3 hM hV hRw ?_
    refine ⟨?_, ?_, ⟨fun q => ?_, fun q => ⟨?_, ?_, ?_, ⟨?_, ?_, ?_, ⟨?_, ?_, ⟨?_, ?_, ⟨fun q => ?_, fun q => ⟨?_, ?_, ?_, ?_, ?_, ?_, ⟨fun q => ?_, fun q => ?_⟩⟩⟩⟩⟩⟩⟩⟩⟩
    all_goals first | omega | exact K | (exfalso; omega)
  | succ f ih =>
    intro p hp K
    have r1 := rl_lt hR0 p x k
    have r2 := rl_lt hR0 (p + 1) x k
    have b1 := gBd_le hV r1 r2
    rw [anM, mlen] at K
    refine g_X9_areNear_3 hM hV hRw ?_
    refine ⟨?_, ?_, ⟨fun q => ?_, fun q => ⟨?_, ?_, ?_, ⟨?_, ?_, ?_, ⟨?_, ?_, ⟨?_, ?_, ⟨fun q => ?_, fun q => ⟨?_, ?_, ?_, ?_, ?_, ?_, ⟨fun q => ?_, fun q => ?_⟩⟩⟩⟩⟩⟩⟩⟩⟩
    all_goals first | omega | assumption | rfl | (exfalso; omega) | (refine ih _ (by omega) ?_; simp only [*, Bool.false_and, Bool.and_false, Bool.false_or] at K; exact K) | (refine ih _ (by omega) ?_; rw [decide_eq_false (by omega), Bool.false_and, Bool.false_or] at K; exact K) | (rw [decide_eq_true (by omega), Bool.true_and] at K; simp only [*, Bool.true_or] at K; exact K)

