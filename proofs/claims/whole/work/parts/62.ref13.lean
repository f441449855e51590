/-- the sum by which the reference reckons P -/
def psI (P : GD) (T : PT) (v w k x : Nat) : Nat → Nat → Int → Int
  | 0, _, a => a
  | f + 1, i, a => psI P T v w k x f (i + 1) (a + rF P v x i * T x w (k - i))
def psX (P : GD) (T : PT) (v w k : Nat) : Nat → Nat → Int → Int
  | 0, _, a => a
  | f + 1, x, a => psX P T v w k f (x + 1) (if (gD P x).testBit v && (gD P w).testBit x then psI P T v w k x (k + 1) 0 a else a)
def hPp (P : GD) (T : PT) : Prop := ∀ v w, v < gN P → w < gN P →
  (∀ k, k < 8 → v = w → T v w k = if k = 0 then 1 else 0) ∧
  (∀ k, k < 8 → v ≠ w → (gD P w).testBit v = false → T v w k = 0) ∧
  (v ≠ w → (gD P w).testBit v = true → gL P v < gL P w ∧ v < w) ∧
  (∀ k, k < 8 → v ≠ w → (gD P w).testBit v = true → T v w k = if k ≤ (gL P w - gL P v - 1) / 2 then -(psX P T v w k (w - v) (v + 1) 0) else 0)
def PL (P : GD) (T : PT) (F : Nat → Int) (w v : Nat) : Prop := ∀ a b k, a < gN P → b < gN P → k < 7 → (b < w ∨ (b = w ∧ v ≤ a)) → F ((60 * a + b) * 7 + k) = T a b k
theorem PL_u {P : GD} {T : PT} {F F2 : Nat → Int} {w v : Nat} (hN : gN P ≤ 60) (h : PL P T F w (v + 1)) (hv : v < gN P) (hw : w < gN P) (h1 : ∀ q, (q < (60 * v + w) * 7 ∨ (60 * v + w) * 7 + 7 ≤ q) → F2 q = F q) (h2 : ∀ k, k < 7 → F2 ((60 * v + w) * 7 + k) = T v w k) : PL P T F2 w v := by
  intro a b k ha hb hk hh
  by_cases e : a = v ∧ b = w
  · rw [e.1, e.2]; exact h2 k hk
  · rw [h1 _ (by omega)]
    exact h a b k ha hb hk (by omega)
theorem PL_at {P : GD} {T : PT} {F : Nat → Int} {w v : Nat} (h : PL P T F w (v + 1)) {F2 : Nat → Int} {b0 : Nat} (hb : b0 = (60 * v + w) * 7) (h1 : ∀ q, (q < b0 ∨ b0 + 7 ≤ q) → F2 q = F q) {a : Nat} (ha : a < gN P) (hw : w < gN P) (hv : v < gN P) (hN : gN P ≤ 60) (hva : v < a) {k : Nat} (hk : k < 7) : rAtF F2 7 a w (k : Int) = T a w k := by
  rw [rAtF, if_pos (by omega), Int.toNat_natCast, h1 _ (by omega)]
  exact h a w k ha hw hk (Or.inr ⟨rfl, by omega⟩)
set_option maxHeartbeats 2000000 in
set_option maxRecDepth 20000 in
theorem g_X9_laysP_149 {G : GG} {j nw nx gn : Nat} {g : Nat → Sh} {c : Nat → Nat → Int} {post : Option AV → AM → Prop} {v : Nat} {w : Nat} {F : Nat → Int} {b0 : Nat} {mo : Nat} {k0 : Nat} {a : Int} {x : Nat} {i : Nat}  (hv : (i < 2147483648) ∧ (k0 < 2147483648) ∧ (((k0 < i) → SW G (j + 2) mX9_laysP 107 [some (vr (49)), some (vi (((v : Nat) : Int))), some (vi (((w : Nat) : Int))), some (vi (((b0 : Nat) : Int))), some (vi (((mo : Nat) : Int))), some (vi (((k0 : Nat) : Int))), some (vi (a)), some (vi (((x + 1 : Nat) : Int))), none] [] (S nw nx g, 78 + gn, (wr c 66 F)) B0 post) ∧ ((¬ (k0 < i)) → (v < 60) ∧ (x < 60) ∧ (-2147483648 ≤ ((i : Nat) : Int) ∧ ((i : Nat) : Int) < 2147483648) ∧ ((x < 60) ∧ (w < 60) ∧ (-2147483648 ≤ (((k0 : Nat) : Int) - ((i : Nat) : Int)) ∧ (((k0 : Nat) : Int) - ((i : Nat) : Int)) < 2147483648) ∧ (SW G (j + 2) mX9_laysP 149 [some (vr (49)), some (vi (((v : Nat) : Int))), some (vi (((w : Nat) : Int))), some (vi (((b0 : Nat) : Int))), some (vi (((mo : Nat) : Int))), some (vi (((k0 : Nat) : Int))), some (vi (a + ((rAtF (c 65) 14 v x ((i : Nat) : Int)) * (rAtF F 7 x w (((k0 : Nat) : Int) - ((i : Nat) : Int)))))), some (vi (((x : Nat) : Int))), some (vi (((i + 1 : Nat) : Int)))] [] (S nw nx g, 78 + gn, (wr c 66 F)) B0 post))))) :
    SW G (j + 2) mX9_laysP 149 [some (vr (49)), some (vi (((v : Nat) : Int))), some (vi (((w : Nat) : Int))), some (vi (((b0 : Nat) : Int))), some (vi (((mo : Nat) : Int))), some (vi (((k0 : Nat) : Int))), some (vi (a)), some (vi (((x : Nat) : Int))), some (vi (((i : Nat) : Int)))] [] (S nw nx g, 78 + gn, (wr c 66 F)) B0 post := by
  refine sw_iload (dX9_laysP_1.at 41 rfl) rfl ?_
  refine sw_iload (dX9_laysP_1.at 42 rfl) rfl ?_
  refine sw_icmpN_gt i k0 (tgt := 189) (dX9_laysP_1.at 43 rfl) (by decide) hv.1 hv.2.1 (fun q => ?_) (fun q => ?_)
  · replace hv := hv.2.2.1 q
    refine sw_iinc (lo' := [some (vr (49)), some (vi (((v : Nat) : Int))), some (vi (((w : Nat) : Int))), some (vi (((b0 : Nat) : Int))), some (vi (((mo : Nat) : Int))), some (vi (((k0 : Nat) : Int))), some (vi (a)), some (vi (((x + 1 : Nat) : Int))), some (vi (((i : Nat) : Int)))]) (dX9_laysP_2.at 12 rfl) rfl (by decide) rfl ?_
    refine sw_goto (tgt := 107) (dX9_laysP_2.at 13 rfl) (by decide) ?_
    exact sw_mask (bs := [true, true, true, true, true, true, true, true, false]) hv
  · replace hv := hv.2.2.2 q
    refine sw_iload (dX9_laysP_1.at 44 rfl) rfl ?_
    refine sw_aload_n (dX9_laysP_1.at 45 rfl) rfl rfl ?_
    refine sw_iload_n (dX9_laysP_1.at 46 rfl) rfl rfl ?_
    refine sw_iload (dX9_laysP_1.at 47 rfl) rfl ?_
    refine sw_iload (dX9_laysP_1.at 48 rfl) rfl ?_
    refine sw_callV (B' := B0) (As := [vi (((v : Nat) : Int)), vi (((x : Nat) : Int)), vi (((i : Nat) : Int))]) (mc := 0) (ms := 0) (dX9_laysP_1.at 49 rfl) lk_X9_286 (S_lt 49 (by decide)) (S_49 nw nx g) rfl rfl (Nat.le_of_ble_eq_true rfl) rfl (Nat.le_refl _) (Nat.le_refl _) ?_
    refine c_X9_rAt (v := v) (w := x) (k := ((i : Nat) : Int)) (j := j + 0) hv.1 hv.2.1 hv.2.2.1 ?_
    replace hv := hv.2.2.2
    refine sw_aload_n (dX9_laysP_2.at 0 rfl) rfl rfl ?_
    refine sw_iload (dX9_laysP_2.at 1 rfl) rfl ?_
    refine sw_iload_n (dX9_laysP_2.at 2 rfl) rfl rfl ?_
    refine sw_iload (dX9_laysP_2.at 3 rfl) rfl ?_
    refine sw_iload (dX9_laysP_2.at 4 rfl) rfl ?_
    refine sw_isub (dX9_laysP_2.at 5 rfl) ?_
    refine sw_callV (B' := B0) (As := [vi (((x : Nat) : Int)), vi (((w : Nat) : Int)), vi (((k0 : Nat) : Int) - ((i : Nat) : Int))]) (mc := 0) (ms := 0) (dX9_laysP_2.at 6 rfl) lk_X9_292 (S_lt 49 (by decide)) (S_49 nw nx g) rfl rfl (Nat.le_of_ble_eq_true rfl) rfl (Nat.le_refl _) (Nat.le_refl _) ?_
    refine c_X9_pAt (v := x) (w := w) (k := (((k0 : Nat) : Int) - ((i : Nat) : Int))) (j := j + 0) hv.1 hv.2.1 hv.2.2.1 ?_
    replace hv := hv.2.2.2
    refine sw_imul (dX9_laysP_2.at 7 rfl) ?_
    refine sw_iadd (dX9_laysP_2.at 8 rfl) ?_
    refine sw_istore (lo' := [some (vr (49)), some (vi (((v : Nat) : Int))), some (vi (((w : Nat) : Int))), some (vi (((b0 : Nat) : Int))), some (vi (((mo : Nat) : Int))), some (vi (((k0 : Nat) : Int))), some (vi (a + ((rAtF (c 65) 14 v x ((i : Nat) : Int)) * (rAtF F 7 x w (((k0 : Nat) : Int) - ((i : Nat) : Int)))))), some (vi (((x : Nat) : Int))), some (vi (((i : Nat) : Int)))]) (dX9_laysP_2.at 9 rfl) (by decide) rfl ?_
    refine sw_iinc (lo' := [some (vr (49)), some (vi (((v : Nat) : Int))), some (vi (((w : Nat) : Int))), some (vi (((b0 : Nat) : Int))), some (vi (((mo : Nat) : Int))), some (vi (((k0 : Nat) : Int))), some (vi (a + ((rAtF (c 65) 14 v x ((i : Nat) : Int)) * (rAtF F 7 x w (((k0 : Nat) : Int) - ((i : Nat) : Int)))))), some (vi (((x : Nat) : Int))), some (vi (((i + 1 : Nat) : Int)))]) (dX9_laysP_2.at 10 rfl) rfl (by decide) rfl ?_
    refine sw_goto (tgt := 149) (dX9_laysP_2.at 11 rfl) (by decide) ?_
    exact hv

set_option maxHeartbeats 2000000 in
set_option maxRecDepth 20000 in
theorem g_X9_laysP_107 {G : GG} {j nw nx gn : Nat} {g : Nat → Sh} {c : Nat → Nat → Int} {post : Option AV → AM → Prop} {v : Nat} {w : Nat} {P : GD} {F : Nat → Int} {b0 : Nat} {mo : Nat} {k0 : Nat} {a : Int} {x : Nat} (hM : ML c P) (hV : GV P) (hA : ∀ a b, a < gN P → b < gN P → c 64 (60 * a + b) = bz ((gD P b).testBit a))  (hv : (x < 2147483648) ∧ (w < 2147483648) ∧ (((w < x) → (b0 + k0 < 25200) ∧ (SW G (j + 2) mX9_laysP 92 [some (vr (49)), some (vi (((v : Nat) : Int))), some (vi (((w : Nat) : Int))), some (vi (((b0 : Nat) : Int))), some (vi (((mo : Nat) : Int))), some (vi (((k0 + 1 : Nat) : Int))), none, none, none] [] (S nw nx g, 78 + gn, (wr c 66 (u1 F (b0 + k0) (-a)))) B0 post)) ∧ ((¬ (w < x)) → (v < gN P) ∧ (x < gN P) ∧ (((((gD P x).testBit v) = false) → SW G (j + 2) mX9_laysP 107 [some (vr (49)), some (vi (((v : Nat) : Int))), some (vi (((w : Nat) : Int))), some (vi (((b0 : Nat) : Int))), some (vi (((mo : Nat) : Int))), some (vi (((k0 : Nat) : Int))), some (vi (a)), some (vi (((x + 1 : Nat) : Int))), none] [] (S nw nx g, 78 + gn, (wr c 66 F)) B0 post) ∧ ((((gD P x).testBit v) = true) → (x < gN P) ∧ (w < gN P) ∧ (((((gD P w).testBit x) = true) → SW G (j + 2) mX9_laysP 149 [some (vr (49)), some (vi (((v : Nat) : Int))), some (vi (((w : Nat) : Int))), some (vi (((b0 : Nat) : Int))), some (vi (((mo : Nat) : Int))), some (vi (((k0 : Nat) : Int))), some (vi (a)), some (vi (((x : Nat) : Int))), some (vi (0))] [] (S nw nx g, 78 + gn, (wr c 66 F)) B0 post) ∧ ((((gD P w).testBit x) = false) → SW G (j + 2) mX9_laysP 107 [some (vr (49)), some (vi (((v : Nat) : Int))), some (vi (((w : Nat) : Int))), some (vi (((b0 : Nat) : Int))), some (vi (((mo : Nat) : Int))), some (vi (((k0 : Nat) : Int))), some (vi (a)), some (vi (((x + 1 : Nat) : Int))), none] [] (S nw nx g, 78 + gn, (wr c 66 F)) B0 post))))))) :
    SW G (j + 2) mX9_laysP 107 [some (vr (49)), some (vi (((v : Nat) : Int))), some (vi (((w : Nat) : Int))), some (vi (((b0 : Nat) : Int))), some (vi (((mo : Nat) : Int))), some (vi (((k0 : Nat) : Int))), some (vi (a)), some (vi (((x : Nat) : Int))), none] [] (S nw nx g, 78 + gn, (wr c 66 F)) B0 post := by
  refine sw_iload (dX9_laysP_1.at 17 rfl) rfl ?_
  refine sw_iload_n (dX9_laysP_1.at 18 rfl) rfl rfl ?_
  refine sw_icmpN_gt x w (tgt := 195) (dX9_laysP_1.at 19 rfl) (by decide) hv.1 hv.2.1 (fun q => ?_) (fun q => ?_)
  · replace hv := hv.2.2.1 q
    refine sw_aload_n (dX9_laysP_2.at 14 rfl) rfl rfl ?_
    refine sw_getR (dX9_laysP_2.at 15 rfl) fp_X9_64 (S_lt 49 (by decide)) (S_49 nw nx g) rfl rfl ?_
    refine sw_iload_n (dX9_laysP_2.at 16 rfl) rfl rfl ?_
    refine sw_iload (dX9_laysP_2.at 17 rfl) rfl ?_
    refine sw_iadd (dX9_laysP_2.at 18 rfl) ?_
    refine sw_topI (y := ((b0 + k0 : Nat) : Int)) (by first | rfl | (congr 1)) ?_
    refine sw_iload (dX9_laysP_2.at 19 rfl) rfl ?_
    refine sw_ineg (dX9_laysP_2.at 20 rfl) ?_
    refine sw_iastN (b0 + k0) (dX9_laysP_2.at 21 rfl) (S_lt 66 (by decide)) (S_66 nw nx g) (by decide) hv.1 ?_
    refine SW.cg (M' := (S nw nx g, 78 + gn, (wr c 66 (u1 F (b0 + k0) (-a))))) (congrArg (fun m => (S nw nx g, 78 + gn, m)) (wr_up c 66 F (b0 + k0) (-a))) ?_
    replace hv := hv.2
    refine sw_iinc (lo' := [some (vr (49)), some (vi (((v : Nat) : Int))), some (vi (((w : Nat) : Int))), some (vi (((b0 : Nat) : Int))), some (vi (((mo : Nat) : Int))), some (vi (((k0 + 1 : Nat) : Int))), some (vi (a)), some (vi (((x : Nat) : Int))), none]) (dX9_laysP_2.at 22 rfl) rfl (by decide) rfl ?_
    refine sw_goto (tgt := 92) (dX9_laysP_2.at 23 rfl) (by decide) ?_
    exact sw_mask (bs := [true, true, true, true, true, true, false, false, false]) hv
  · replace hv := hv.2.2.2 q
    refine sw_aload_n (dX9_laysP_1.at 20 rfl) rfl rfl ?_
    refine sw_getR (dX9_laysP_1.at 21 rfl) fp_X9_56 (S_lt 49 (by decide)) (S_49 nw nx g) rfl rfl ?_
    refine sw_bipush (dX9_laysP_1.at 22 rfl) (by decide) ?_
    refine sw_iload_n (dX9_laysP_1.at 23 rfl) rfl rfl ?_
    refine sw_imul (dX9_laysP_1.at 24 rfl) ?_
    refine sw_topI (y := ((60 * v : Nat) : Int)) (by first | rfl | (congr 1)) ?_
    refine sw_iload (dX9_laysP_1.at 25 rfl) rfl ?_
    refine sw_iadd (dX9_laysP_1.at 26 rfl) ?_
    refine sw_topI (y := (((60 * v) + x : Nat) : Int)) (by first | rfl | (congr 1)) ?_
    refine sw_zaldN ((60 * v) + x) (w := bz ((gD P x).testBit v)) (dX9_laysP_1.at 27 rfl) (S_lt 64 (by decide)) (S_64 nw nx g) (by decide) (by have := GV_N hV; omega) (hA _ _ hv.1 hv.2.1) ?_
    replace hv := hv.2.2
    refine sw_if_eq (tgt := 189) (dX9_laysP_1.at 28 rfl) (by decide) (bz_rng _) (fun q => ?_) (fun q => ?_)
    · replace hv := hv.1 (bz_0 q)
      refine sw_iinc (lo' := [some (vr (49)), some (vi (((v : Nat) : Int))), some (vi (((w : Nat) : Int))), some (vi (((b0 : Nat) : Int))), some (vi (((mo : Nat) : Int))), some (vi (((k0 : Nat) : Int))), some (vi (a)), some (vi (((x + 1 : Nat) : Int))), none]) (dX9_laysP_2.at 12 rfl) rfl (by decide) rfl ?_
      refine sw_goto (tgt := 107) (dX9_laysP_2.at 13 rfl) (by decide) ?_
      exact hv
    · replace hv := hv.2 (bz_n0 q)
      refine sw_aload_n (dX9_laysP_1.at 29 rfl) rfl rfl ?_
      refine sw_getR (dX9_laysP_1.at 30 rfl) fp_X9_56 (S_lt 49 (by decide)) (S_49 nw nx g) rfl rfl ?_
      refine sw_bipush (dX9_laysP_1.at 31 rfl) (by decide) ?_
      refine sw_iload (dX9_laysP_1.at 32 rfl) rfl ?_
      refine sw_imul (dX9_laysP_1.at 33 rfl) ?_
      refine sw_topI (y := ((60 * x : Nat) : Int)) (by first | rfl | (congr 1)) ?_
      refine sw_iload_n (dX9_laysP_1.at 34 rfl) rfl rfl ?_
      refine sw_iadd (dX9_laysP_1.at 35 rfl) ?_
      refine sw_topI (y := (((60 * x) + w : Nat) : Int)) (by first | rfl | (congr 1)) ?_
      refine sw_zaldN ((60 * x) + w) (w := bz ((gD P w).testBit x)) (dX9_laysP_1.at 36 rfl) (S_lt 64 (by decide)) (S_64 nw nx g) (by decide) (by have := GV_N hV; omega) (hA _ _ hv.1 hv.2.1) ?_
      replace hv := hv.2.2
      refine sw_if_ne (tgt := 146) (dX9_laysP_1.at 37 rfl) (by decide) (bz_rng _) (fun q => ?_) (fun q => ?_)
      · replace hv := hv.1 (bz_1 q)
        refine sw_iconst (dX9_laysP_1.at 39 rfl) ?_
        refine sw_istore (lo' := [some (vr (49)), some (vi (((v : Nat) : Int))), some (vi (((w : Nat) : Int))), some (vi (((b0 : Nat) : Int))), some (vi (((mo : Nat) : Int))), some (vi (((k0 : Nat) : Int))), some (vi (a)), some (vi (((x : Nat) : Int))), some (vi (0))]) (dX9_laysP_1.at 40 rfl) (by decide) rfl ?_
        exact hv
      · replace hv := hv.2 (bz_n1 q)
        refine sw_goto (tgt := 189) (dX9_laysP_1.at 38 rfl) (by decide) ?_
        refine sw_iinc (lo' := [some (vr (49)), some (vi (((v : Nat) : Int))), some (vi (((w : Nat) : Int))), some (vi (((b0 : Nat) : Int))), some (vi (((mo : Nat) : Int))), some (vi (((k0 : Nat) : Int))), some (vi (a)), some (vi (((x + 1 : Nat) : Int))), none]) (dX9_laysP_2.at 12 rfl) rfl (by decide) rfl ?_
        refine sw_goto (tgt := 107) (dX9_laysP_2.at 13 rfl) (by decide) ?_
        exact hv

set_option maxHeartbeats 2000000 in
set_option maxRecDepth 20000 in
theorem g_X9_laysP_92 {G : GG} {j nw nx gn : Nat} {g : Nat → Sh} {c : Nat → Nat → Int} {post : Option AV → AM → Prop} {v : Nat} {w : Nat} {F : Nat → Int} {b0 : Nat} {mo : Nat} {k0 : Nat}  (hv : (k0 < 2147483648) ∧ (mo < 2147483648) ∧ (((mo < k0) → post none (S nw nx g, 78 + gn, (wr c 66 F))) ∧ ((¬ (mo < k0)) → SW G (j + 2) mX9_laysP 107 [some (vr (49)), some (vi (((v : Nat) : Int))), some (vi (((w : Nat) : Int))), some (vi (((b0 : Nat) : Int))), some (vi (((mo : Nat) : Int))), some (vi (((k0 : Nat) : Int))), some (vi (0)), some (vi (((v + 1 : Nat) : Int))), none] [] (S nw nx g, 78 + gn, (wr c 66 F)) B0 post))) :
    SW G (j + 2) mX9_laysP 92 [some (vr (49)), some (vi (((v : Nat) : Int))), some (vi (((w : Nat) : Int))), some (vi (((b0 : Nat) : Int))), some (vi (((mo : Nat) : Int))), some (vi (((k0 : Nat) : Int))), none, none, none] [] (S nw nx g, 78 + gn, (wr c 66 F)) B0 post := by
  refine sw_iload (dX9_laysP_1.at 8 rfl) rfl ?_
  refine sw_iload (dX9_laysP_1.at 9 rfl) rfl ?_
  refine sw_icmpN_gt k0 mo (tgt := 213) (dX9_laysP_1.at 10 rfl) (by decide) hv.1 hv.2.1 (fun q => ?_) (fun q => ?_)
  · replace hv := hv.2.2.1 q
    exact sw_vret (dX9_laysP_2.at 24 rfl) rfl (Nat.le_refl _) (Nat.le_refl _) hv
  · replace hv := hv.2.2.2 q
    refine sw_iconst (dX9_laysP_1.at 11 rfl) ?_
    refine sw_istore (lo' := [some (vr (49)), some (vi (((v : Nat) : Int))), some (vi (((w : Nat) : Int))), some (vi (((b0 : Nat) : Int))), some (vi (((mo : Nat) : Int))), some (vi (((k0 : Nat) : Int))), some (vi (0)), none, none]) (dX9_laysP_1.at 12 rfl) (by decide) rfl ?_
    refine sw_iload_n (dX9_laysP_1.at 13 rfl) rfl rfl ?_
    refine sw_iconst (dX9_laysP_1.at 14 rfl) ?_
    refine sw_iadd (dX9_laysP_1.at 15 rfl) ?_
    refine sw_topI (y := ((v + 1 : Nat) : Int)) (by first | rfl | (congr 1)) ?_
    refine sw_istore (lo' := [some (vr (49)), some (vi (((v : Nat) : Int))), some (vi (((w : Nat) : Int))), some (vi (((b0 : Nat) : Int))), some (vi (((mo : Nat) : Int))), some (vi (((k0 : Nat) : Int))), some (vi (0)), some (vi (((v + 1 : Nat) : Int))), none]) (dX9_laysP_1.at 16 rfl) (by decide) rfl ?_
    exact hv

set_option maxHeartbeats 2000000 in
set_option maxRecDepth 20000 in
theorem g_X9_laysP_13 {G : GG} {j nw nx gn : Nat} {g : Nat → Sh} {c : Nat → Nat → Int} {post : Option AV → AM → Prop} {v : Nat} {w : Nat} {P : GD} {F : Nat → Int} {b0 : Nat} {k0 : Nat} (hM : ML c P) (hV : GV P) (hA : ∀ a b, a < gN P → b < gN P → c 64 (60 * a + b) = bz ((gD P b).testBit a))  (hv : (k0 < 2147483648) ∧ (((7 ≤ k0) → (v < 2147483648) ∧ (w < 2147483648) ∧ (((v = w) → post none (S nw nx g, 78 + gn, (wr c 66 F))) ∧ ((¬ (v = w)) → (v < gN P) ∧ (w < gN P) ∧ (((((gD P w).testBit v) = true) → (w < gN P) ∧ ((v < gN P) ∧ ((gL P v ≤ gL P w) ∧ ((1 ≤ (gL P w) - (gL P v)) ∧ ((((gL P w) - (gL P v)) - 1 < 2147483648) ∧ (SW G (j + 2) mX9_laysP 92 [some (vr (49)), some (vi (((v : Nat) : Int))), some (vi (((w : Nat) : Int))), some (vi (((b0 : Nat) : Int))), some (vi ((((((gL P w) - (gL P v)) - 1) / 2 : Nat) : Int))), some (vi (0)), none, none, none] [] (S nw nx g, 78 + gn, (wr c 66 F)) B0 post)))))) ∧ ((((gD P w).testBit v) = false) → post none (S nw nx g, 78 + gn, (wr c 66 F))))))) ∧ ((¬ (7 ≤ k0)) → (v < 2147483648) ∧ (w < 2147483648) ∧ (((v ≠ w) → (b0 + k0 < 25200) ∧ (SW G (j + 2) mX9_laysP 13 [some (vr (49)), some (vi (((v : Nat) : Int))), some (vi (((w : Nat) : Int))), some (vi (((b0 : Nat) : Int))), some (vi (((k0 + 1 : Nat) : Int))), none, none, none, none] [] (S nw nx g, 78 + gn, (wr c 66 (u1 F (b0 + k0) 0))) B0 post)) ∧ ((v = w) → (k0 < 2147483648) ∧ (((k0 ≠ 0) → (b0 + k0 < 25200) ∧ (SW G (j + 2) mX9_laysP 13 [some (vr (49)), some (vi (((v : Nat) : Int))), some (vi (((w : Nat) : Int))), some (vi (((b0 : Nat) : Int))), some (vi (((k0 + 1 : Nat) : Int))), none, none, none, none] [] (S nw nx g, 78 + gn, (wr c 66 (u1 F (b0 + k0) 0))) B0 post)) ∧ ((k0 = 0) → (b0 + k0 < 25200) ∧ (SW G (j + 2) mX9_laysP 13 [some (vr (49)), some (vi (((v : Nat) : Int))), some (vi (((w : Nat) : Int))), some (vi (((b0 : Nat) : Int))), some (vi (((k0 + 1 : Nat) : Int))), none, none, none, none] [] (S nw nx g, 78 + gn, (wr c 66 (u1 F (b0 + k0) 1))) B0 post)))))))) :
    SW G (j + 2) mX9_laysP 13 [some (vr (49)), some (vi (((v : Nat) : Int))), some (vi (((w : Nat) : Int))), some (vi (((b0 : Nat) : Int))), some (vi (((k0 : Nat) : Int))), none, none, none, none] [] (S nw nx g, 78 + gn, (wr c 66 F)) B0 post := by
  refine sw_iload (dX9_laysP_0.at 10 rfl) rfl ?_
  refine sw_bipush (dX9_laysP_0.at 11 rfl) (by decide) ?_
  refine sw_icmpN_ge k0 7 (tgt := 50) (dX9_laysP_0.at 12 rfl) (by decide) hv.1 (by decide) (fun q => ?_) (fun q => ?_)
  · replace hv := hv.2.1 q
    refine sw_iload_n (dX9_laysP_0.at 29 rfl) rfl rfl ?_
    refine sw_iload_n (dX9_laysP_0.at 30 rfl) rfl rfl ?_
    refine sw_icmpN_eq v w (tgt := 69) (dX9_laysP_0.at 31 rfl) (by decide) hv.1 hv.2.1 (fun q => ?_) (fun q => ?_)
    · replace hv := hv.2.2.1 q
      exact sw_vret (dX9_laysP_0.at 41 rfl) rfl (Nat.le_refl _) (Nat.le_refl _) hv
    · replace hv := hv.2.2.2 q
      refine sw_aload_n (dX9_laysP_0.at 32 rfl) rfl rfl ?_
      refine sw_getR (dX9_laysP_0.at 33 rfl) fp_X9_56 (S_lt 49 (by decide)) (S_49 nw nx g) rfl rfl ?_
      refine sw_bipush (dX9_laysP_0.at 34 rfl) (by decide) ?_
      refine sw_iload_n (dX9_laysP_0.at 35 rfl) rfl rfl ?_
      refine sw_imul (dX9_laysP_0.at 36 rfl) ?_
      refine sw_topI (y := ((60 * v : Nat) : Int)) (by first | rfl | (congr 1)) ?_
      refine sw_iload_n (dX9_laysP_0.at 37 rfl) rfl rfl ?_
      refine sw_iadd (dX9_laysP_0.at 38 rfl) ?_
      refine sw_topI (y := (((60 * v) + w : Nat) : Int)) (by first | rfl | (congr 1)) ?_
      refine sw_zaldN ((60 * v) + w) (w := bz ((gD P w).testBit v)) (dX9_laysP_0.at 39 rfl) (S_lt 64 (by decide)) (S_64 nw nx g) (by decide) (by have := GV_N hV; omega) (hA _ _ hv.1 hv.2.1) ?_
      replace hv := hv.2.2
      refine sw_if_ne (tgt := 70) (dX9_laysP_0.at 40 rfl) (by decide) (bz_rng _) (fun q => ?_) (fun q => ?_)
      · replace hv := hv.1 (bz_1 q)
        refine sw_aload_n (dX9_laysP_0.at 42 rfl) rfl rfl ?_
        refine sw_getR (dX9_laysP_0.at 43 rfl) fp_X9_32 (S_lt 49 (by decide)) (S_49 nw nx g) rfl rfl ?_
        refine sw_iload_n (dX9_laysP_0.at 44 rfl) rfl rfl ?_
        refine sw_ialdN w (w := ((gL P w : Nat) : Int)) (dX9_laysP_0.at 45 rfl) (S_lt 56 (by decide)) (S_56 nw nx g) (by decide) (GV_lt hV hv.1) (ML_L (ML_SD hM (SD_wr SD_rf (a := 66) (f := F) (by decide))) hv.1) ?_
        replace hv := hv.2
        refine sw_aload_n (dX9_laysP_0.at 46 rfl) rfl rfl ?_
        refine sw_getR (dX9_laysP_0.at 47 rfl) fp_X9_32 (S_lt 49 (by decide)) (S_49 nw nx g) rfl rfl ?_
        refine sw_iload_n (dX9_laysP_0.at 48 rfl) rfl rfl ?_
        refine sw_ialdN v (w := ((gL P v : Nat) : Int)) (dX9_laysP_0.at 49 rfl) (S_lt 56 (by decide)) (S_56 nw nx g) (by decide) (GV_lt hV hv.1) (ML_L (ML_SD hM (SD_wr SD_rf (a := 66) (f := F) (by decide))) hv.1) ?_
        replace hv := hv.2
        refine sw_isub (dX9_laysP_1.at 0 rfl) ?_
        refine sw_topI (y := (((gL P w) - (gL P v) : Nat) : Int)) (congrArg _ (Int.ofNat_sub hv.1).symm) ?_
        replace hv := hv.2
        refine sw_iconst (dX9_laysP_1.at 1 rfl) ?_
        refine sw_isub (dX9_laysP_1.at 2 rfl) ?_
        refine sw_topI (y := ((((gL P w) - (gL P v)) - 1 : Nat) : Int)) (congrArg _ (Int.ofNat_sub hv.1).symm) ?_
        replace hv := hv.2
        refine sw_iconst (dX9_laysP_1.at 3 rfl) ?_
        refine sw_idivN (((gL P w) - (gL P v)) - 1) 2 (dX9_laysP_1.at 4 rfl) (by decide) (by decide) hv.1 ?_
        replace hv := hv.2
        refine sw_istore (lo' := [some (vr (49)), some (vi (((v : Nat) : Int))), some (vi (((w : Nat) : Int))), some (vi (((b0 : Nat) : Int))), some (vi ((((((gL P w) - (gL P v)) - 1) / 2 : Nat) : Int))), none, none, none, none]) (dX9_laysP_1.at 5 rfl) (by decide) rfl ?_
        refine sw_iconst (dX9_laysP_1.at 6 rfl) ?_
        refine sw_istore (lo' := [some (vr (49)), some (vi (((v : Nat) : Int))), some (vi (((w : Nat) : Int))), some (vi (((b0 : Nat) : Int))), some (vi ((((((gL P w) - (gL P v)) - 1) / 2 : Nat) : Int))), some (vi (0)), none, none, none]) (dX9_laysP_1.at 7 rfl) (by decide) rfl ?_
        exact hv
      · replace hv := hv.2 (bz_n1 q)
        exact sw_vret (dX9_laysP_0.at 41 rfl) rfl (Nat.le_refl _) (Nat.le_refl _) hv
  · replace hv := hv.2.2 q
    refine sw_aload_n (dX9_laysP_0.at 13 rfl) rfl rfl ?_
    refine sw_getR (dX9_laysP_0.at 14 rfl) fp_X9_64 (S_lt 49 (by decide)) (S_49 nw nx g) rfl rfl ?_
    refine sw_iload_n (dX9_laysP_0.at 15 rfl) rfl rfl ?_
    refine sw_iload (dX9_laysP_0.at 16 rfl) rfl ?_
    refine sw_iadd (dX9_laysP_0.at 17 rfl) ?_
    refine sw_topI (y := ((b0 + k0 : Nat) : Int)) (by first | rfl | (congr 1)) ?_
    refine sw_iload_n (dX9_laysP_0.at 18 rfl) rfl rfl ?_
    refine sw_iload_n (dX9_laysP_0.at 19 rfl) rfl rfl ?_
    refine sw_icmpN_ne v w (tgt := 42) (dX9_laysP_0.at 20 rfl) (by decide) hv.1 hv.2.1 (fun q => ?_) (fun q => ?_)
    · replace hv := hv.2.2.1 q
      refine sw_iconst (dX9_laysP_0.at 25 rfl) ?_
      refine sw_iastN (b0 + k0) (dX9_laysP_0.at 26 rfl) (S_lt 66 (by decide)) (S_66 nw nx g) (by decide) hv.1 ?_
      refine SW.cg (M' := (S nw nx g, 78 + gn, (wr c 66 (u1 F (b0 + k0) 0)))) (congrArg (fun m => (S nw nx g, 78 + gn, m)) (wr_up c 66 F (b0 + k0) 0)) ?_
      replace hv := hv.2
      refine sw_iinc (lo' := [some (vr (49)), some (vi (((v : Nat) : Int))), some (vi (((w : Nat) : Int))), some (vi (((b0 : Nat) : Int))), some (vi (((k0 + 1 : Nat) : Int))), none, none, none, none]) (dX9_laysP_0.at 27 rfl) rfl (by decide) rfl ?_
      refine sw_goto (tgt := 13) (dX9_laysP_0.at 28 rfl) (by decide) ?_
      exact hv
    · replace hv := hv.2.2.2 q
      refine sw_iload (dX9_laysP_0.at 21 rfl) rfl ?_
      refine sw_ifN_ne k0 (tgt := 42) (dX9_laysP_0.at 22 rfl) (by decide) hv.1 (fun q => ?_) (fun q => ?_)
      · replace hv := hv.2.1 q
        refine sw_iconst (dX9_laysP_0.at 25 rfl) ?_
        refine sw_iastN (b0 + k0) (dX9_laysP_0.at 26 rfl) (S_lt 66 (by decide)) (S_66 nw nx g) (by decide) hv.1 ?_
        refine SW.cg (M' := (S nw nx g, 78 + gn, (wr c 66 (u1 F (b0 + k0) 0)))) (congrArg (fun m => (S nw nx g, 78 + gn, m)) (wr_up c 66 F (b0 + k0) 0)) ?_
        replace hv := hv.2
        refine sw_iinc (lo' := [some (vr (49)), some (vi (((v : Nat) : Int))), some (vi (((w : Nat) : Int))), some (vi (((b0 : Nat) : Int))), some (vi (((k0 + 1 : Nat) : Int))), none, none, none, none]) (dX9_laysP_0.at 27 rfl) rfl (by decide) rfl ?_
        refine sw_goto (tgt := 13) (dX9_laysP_0.at 28 rfl) (by decide) ?_
        exact hv
      · replace hv := hv.2.2 q
        refine sw_iconst (dX9_laysP_0.at 23 rfl) ?_
        refine sw_goto (tgt := 43) (dX9_laysP_0.at 24 rfl) (by decide) ?_
        refine sw_iastN (b0 + k0) (dX9_laysP_0.at 26 rfl) (S_lt 66 (by decide)) (S_66 nw nx g) (by decide) hv.1 ?_
        refine SW.cg (M' := (S nw nx g, 78 + gn, (wr c 66 (u1 F (b0 + k0) 1)))) (congrArg (fun m => (S nw nx g, 78 + gn, m)) (wr_up c 66 F (b0 + k0) 1)) ?_
        replace hv := hv.2
        refine sw_iinc (lo' := [some (vr (49)), some (vi (((v : Nat) : Int))), some (vi (((w : Nat) : Int))), some (vi (((b0 : Nat) : Int))), some (vi (((k0 + 1 : Nat) : Int))), none, none, none, none]) (dX9_laysP_0.at 27 rfl) rfl (by decide) rfl ?_
        refine sw_goto (tgt := 13) (dX9_laysP_0.at 28 rfl) (by decide) ?_
        exact hv

set_option maxHeartbeats 2000000 in
set_option maxRecDepth 20000 in
theorem g_X9_laysP_0 {G : GG} {j nw nx gn : Nat} {g : Nat → Sh} {c : Nat → Nat → Int} {post : Option AV → AM → Prop} {v : Nat} {w : Nat} {F : Nat → Int}  (hv : SW G (j + 2) mX9_laysP 13 [some (vr (49)), some (vi (((v : Nat) : Int))), some (vi (((w : Nat) : Int))), some (vi (((((60 * v) + w) * 7 : Nat) : Int))), some (vi (0)), none, none, none, none] [] (S nw nx g, 78 + gn, (wr c 66 F)) B0 post) :
    SW G (j + 2) mX9_laysP 0 [some (vr (49)), some (vi (((v : Nat) : Int))), some (vi (((w : Nat) : Int))), none, none, none, none, none, none] [] (S nw nx g, 78 + gn, (wr c 66 F)) B0 post := by
  refine sw_bipush (dX9_laysP_0.at 0 rfl) (by decide) ?_
  refine sw_iload_n (dX9_laysP_0.at 1 rfl) rfl rfl ?_
  refine sw_imul (dX9_laysP_0.at 2 rfl) ?_
  refine sw_topI (y := ((60 * v : Nat) : Int)) (by first | rfl | (congr 1)) ?_
  refine sw_iload_n (dX9_laysP_0.at 3 rfl) rfl rfl ?_
  refine sw_iadd (dX9_laysP_0.at 4 rfl) ?_
  refine sw_topI (y := (((60 * v) + w : Nat) : Int)) (by first | rfl | (congr 1)) ?_
  refine sw_bipush (dX9_laysP_0.at 5 rfl) (by decide) ?_
  refine sw_imul (dX9_laysP_0.at 6 rfl) ?_
  refine sw_topI (y := ((((60 * v) + w) * 7 : Nat) : Int)) (by first | rfl | (congr 1)) ?_
  refine sw_istore_n (lo' := [some (vr (49)), some (vi (((v : Nat) : Int))), some (vi (((w : Nat) : Int))), some (vi (((((60 * v) + w) * 7 : Nat) : Int))), none, none, none, none, none]) (dX9_laysP_0.at 7 rfl) rfl (by decide) rfl ?_
  refine sw_iconst (dX9_laysP_0.at 8 rfl) ?_
  refine sw_istore (lo' := [some (vr (49)), some (vi (((v : Nat) : Int))), some (vi (((w : Nat) : Int))), some (vi (((((60 * v) + w) * 7 : Nat) : Int))), some (vi (0)), none, none, none, none]) (dX9_laysP_0.at 9 rfl) (by decide) rfl ?_
  exact hv

set_option maxHeartbeats 4000000 in
theorem lp_X9_laysP_149 {G : GG} {j nw nx gn : Nat} {g : Nat → Sh} {c : Nat → Nat → Int} {post : Option AV → AM → Prop} {P : GD} {T : PT} {v w b0 mo k0 x : Nat} {F0 F : Nat → Int} (hM : ML c P) (hV : GV P) (hA : ∀ a b, a < gN P → b < gN P → c 64 (60 * a + b) = bz ((gD P b).testBit a)) (hRA : ∀ a b k, a < gN P → b < gN P → k < 14 → c 65 ((60 * a + b) * 14 + k) = rF P a b k) (hP : hPp P T) (hL : PL P T F0 w (v + 1)) (hv : v < gN P) (hw : w < gN P) (hb0 : b0 = (60 * v + w) * 7) (hF : (∀ q, (q < b0 ∨ b0 + 7 ≤ q) → F q = F0 q)) (hx : v < x) (hx2 : x < gN P) (hk : k0 < 7) : ∀ (f i : Nat) (a : Int), i + f = k0 + 1 → SW G (j + 2) mX9_laysP 107 [some (vr (49)), some (vi (((v : Nat) : Int))), some (vi (((w : Nat) : Int))), some (vi (((b0 : Nat) : Int))), some (vi (((mo : Nat) : Int))), some (vi (((k0 : Nat) : Int))), some (vi (psI P T v w k0 x f i a)), some (vi (((x + 1 : Nat) : Int))), none] [] (S nw nx g, 78 + gn, (wr c 66 F)) B0 post → SW G (j + 2) mX9_laysP 149 [some (vr (49)), some (vi (((v : Nat) : Int))), some (vi (((w : Nat) : Int))), some (vi (((b0 : Nat) : Int))), some (vi (((mo : Nat) : Int))), some (vi (((k0 : Nat) : Int))), some (vi (a)), some (vi (((x : Nat) : Int))), some (vi (((i : Nat) : Int)))] [] (S nw nx g, 78 + gn, (wr c 66 F)) B0 post := by
  have h60 := GV_N hV
  intro f
  induction f with
  | zero =>
    intro i a hi K
    rw [psI] at K
    refine g_X9_laysP_149 ?_
    refine ⟨?_, ?_, ⟨fun q => ?_, fun q => ⟨?_, ?_, ?_, ⟨?_, ?_, ?_, ?_⟩⟩⟩⟩
    all_goals first | omega | exact K | (exfalso; omega)
  | succ f ih =>
    intro i a hi K
    rw [psI] at K
    have e1 : rAtF (c 65) 14 v x (i : Int) = rF P v x i := by
      rw [rAtF, if_pos (by omega), Int.toNat_natCast]; exact hRA v x i hv hx2 (by omega)
    have e2 : rAtF F 7 x w ((k0 : Int) - (i : Int)) = T x w (k0 - i) := by
      rw [show (k0 : Int) - (i : Int) = ((k0 - i : Nat) : Int) by omega]
      exact PL_at hL hb0 hF hx2 hw hv h60 hx (by omega)
    refine g_X9_laysP_149 ?_
    rw [e1, e2]
    refine ⟨?_, ?_, ⟨fun q => ?_, fun q => ⟨?_, ?_, ?_, ⟨?_, ?_, ?_, ?_⟩⟩⟩⟩
    all_goals first | omega | (exfalso; omega) | exact ih _ _ (by omega) K
set_option maxHeartbeats 4000000 in
theorem lp_X9_laysP_107 {G : GG} {j nw nx gn : Nat} {g : Nat → Sh} {c : Nat → Nat → Int} {post : Option AV → AM → Prop} {P : GD} {T : PT} {v w b0 mo k0 : Nat} {F0 F : Nat → Int} (hM : ML c P) (hV : GV P) (hA : ∀ a b, a < gN P → b < gN P → c 64 (60 * a + b) = bz ((gD P b).testBit a)) (hRA : ∀ a b k, a < gN P → b < gN P → k < 14 → c 65 ((60 * a + b) * 14 + k) = rF P a b k) (hP : hPp P T) (hL : PL P T F0 w (v + 1)) (hv : v < gN P) (hw : w < gN P) (hb0 : b0 = (60 * v + w) * 7) (hF : (∀ q, (q < b0 ∨ b0 + 7 ≤ q) → F q = F0 q)) (hk : k0 < 7) (K : SW G (j + 2) mX9_laysP 92 [some (vr (49)), some (vi (((v : Nat) : Int))), some (vi (((w : Nat) : Int))), some (vi (((b0 : Nat) : Int))), some (vi (((mo : Nat) : Int))), some (vi (((k0 + 1 : Nat) : Int))), none, none, none] [] (S nw nx g, 78 + gn, (wr c 66 (u1 F (b0 + k0) (-(psX P T v w k0 (w - v) (v + 1) 0))))) B0 post) : ∀ (f x : Nat) (a : Int), v < x → x + f = w + 1 → psX P T v w k0 f x a = psX P T v w k0 (w - v) (v + 1) 0 → SW G (j + 2) mX9_laysP 107 [some (vr (49)), some (vi (((v : Nat) : Int))), some (vi (((w : Nat) : Int))), some (vi (((b0 : Nat) : Int))), some (vi (((mo : Nat) : Int))), some (vi (((k0 : Nat) : Int))), some (vi (a)), some (vi (((x : Nat) : Int))), none] [] (S nw nx g, 78 + gn, (wr c 66 F)) B0 post := by
  have h60 := GV_N hV
  intro f
  induction f with
  | zero =>
    intro x a hx hf ha
    rw [psX] at ha
    rw [← ha] at K
    refine g_X9_laysP_107 hM hV hA ?_
    refine ⟨?_, ?_, ⟨fun q => ⟨?_, ?_⟩, fun q => ⟨?_, ?_, ⟨fun q => ?_, fun q => ⟨?_, ?_, ⟨fun q => ?_, fun q => ?_⟩⟩⟩⟩⟩⟩
    all_goals first | omega | exact K | (exfalso; omega)
  | succ f ih =>
    intro x a hx hf ha
    rw [psX] at ha
    refine g_X9_laysP_107 hM hV hA ?_
    cases h1 : (gD P x).testBit v with
    | false =>
      rw [h1, Bool.false_and, if_neg (by decide)] at ha
      refine ⟨?_, ?_, ⟨fun q => ⟨?_, ?_⟩, fun q => ⟨?_, ?_, ⟨fun q => ?_, fun q => ⟨?_, ?_, ⟨fun q => ?_, fun q => ?_⟩⟩⟩⟩⟩⟩
      all_goals first | omega | (exfalso; omega) | contradiction | exact ih _ _ (by omega) (by omega) ha
    | true =>
      cases h2 : (gD P w).testBit x with
      | false =>
        rw [h1, h2, Bool.and_false, if_neg (by decide)] at ha
        refine ⟨?_, ?_, ⟨fun q => ⟨?_, ?_⟩, fun q => ⟨?_, ?_, ⟨fun q => ?_, fun q => ⟨?_, ?_, ⟨fun q => ?_, fun q => ?_⟩⟩⟩⟩⟩⟩
        all_goals first | omega | (exfalso; omega) | contradiction | exact ih _ _ (by omega) (by omega) ha
      | true =>
        rw [h1, h2, Bool.and_self, if_pos rfl] at ha
        refine ⟨?_, ?_, ⟨fun q => ⟨?_, ?_⟩, fun q => ⟨?_, ?_, ⟨fun q => ?_, fun q => ⟨?_, ?_, ⟨fun q => ?_, fun q => ?_⟩⟩⟩⟩⟩⟩
        all_goals first | omega | (exfalso; omega) | contradiction | exact lp_X9_laysP_149 hM hV hA hRA hP hL hv hw hb0 hF hx (by omega) hk (k0 + 1) 0 a (by omega) (ih _ _ (by omega) (by omega) ha)
set_option maxHeartbeats 4000000 in
theorem lp_X9_laysP_92 {G : GG} {j nw nx gn : Nat} {g : Nat → Sh} {c : Nat → Nat → Int} {post : Option AV → AM → Prop} {P : GD} {T : PT} {v w b0 mo : Nat} {F0 : Nat → Int} (hM : ML c P) (hV : GV P) (hA : ∀ a b, a < gN P → b < gN P → c 64 (60 * a + b) = bz ((gD P b).testBit a)) (hRA : ∀ a b k, a < gN P → b < gN P → k < 14 → c 65 ((60 * a + b) * 14 + k) = rF P a b k) (hP : hPp P T) (hL : PL P T F0 w (v + 1)) (hv : v < gN P) (hw : w < gN P) (hb0 : b0 = (60 * v + w) * 7) (hn : v ≠ w) (hb : (gD P w).testBit v = true) (hmo : mo = (gL P w - gL P v - 1) / 2) (K : ∀ F2 : Nat → Int, PL P T F2 w v → post none (S nw nx g, 78 + gn, wr c 66 F2)) : ∀ (f k0 : Nat) (F : Nat → Int), k0 + f = mo + 1 → (∀ q, (q < b0 ∨ b0 + 7 ≤ q) → F q = F0 q) → (∀ i, i < 7 → F (b0 + i) = if i < k0 then T v w i else 0) → SW G (j + 2) mX9_laysP 92 [some (vr (49)), some (vi (((v : Nat) : Int))), some (vi (((w : Nat) : Int))), some (vi (((b0 : Nat) : Int))), some (vi (((mo : Nat) : Int))), some (vi (((k0 : Nat) : Int))), none, none, none] [] (S nw nx g, 78 + gn, (wr c 66 F)) B0 post := by
  have h60 := GV_N hV
  have p9 := hP v w hv hw
  have l9 := p9.2.2.1 hn hb
  have l13 := (hV.2.2.1 w hw).1
  intro f
  induction f with
  | zero =>
    intro k0 F hk hF hG
    have K2 := K F (PL_u h60 hL hv hw (by rw [← hb0]; exact hF) (fun i hi => by
      rw [← hb0, hG i hi]
      split
      · rfl
      · rw [p9.2.2.2 i (by omega) hn hb, if_neg (by omega)]))
    refine g_X9_laysP_92 ?_
    refine ⟨?_, ?_, ⟨fun q => ?_, fun q => ?_⟩⟩
    all_goals first | omega | exact K2 | (exfalso; omega)
  | succ f ih =>
    intro k0 F hk hF hG
    have nx9 := ih (k0 + 1) (u1 F (b0 + k0) (-(psX P T v w k0 (w - v) (v + 1) 0))) (by omega) (fun q hq => by rw [u1_ne (by omega)]; exact hF q hq) (fun i hi => by
      by_cases e : i = k0
      · rw [e, u1_eq, if_pos (by omega), p9.2.2.2 k0 (by omega) hn hb, if_pos (by omega)]
      · rw [u1_ne (by omega), hG i hi]
        by_cases e2 : i < k0
        · rw [if_pos e2, if_pos (by omega)]
        · rw [if_neg e2, if_neg (by omega)])
    refine g_X9_laysP_92 ?_
    refine ⟨?_, ?_, ⟨fun q => ?_, fun q => ?_⟩⟩
    all_goals first | omega | (exfalso; omega) | exact lp_X9_laysP_107 hM hV hA hRA hP hL hv hw hb0 hF (by omega) nx9 (w - v) (v + 1) 0 (by omega) (by omega) rfl
set_option maxHeartbeats 4000000 in
theorem lp_X9_laysP_13 {G : GG} {j nw nx gn : Nat} {g : Nat → Sh} {c : Nat → Nat → Int} {post : Option AV → AM → Prop} {P : GD} {T : PT} {v w b0 : Nat} {F0 : Nat → Int} (hM : ML c P) (hV : GV P) (hA : ∀ a b, a < gN P → b < gN P → c 64 (60 * a + b) = bz ((gD P b).testBit a)) (hRA : ∀ a b k, a < gN P → b < gN P → k < 14 → c 65 ((60 * a + b) * 14 + k) = rF P a b k) (hP : hPp P T) (hL : PL P T F0 w (v + 1)) (hv : v < gN P) (hw : w < gN P) (hb0 : b0 = (60 * v + w) * 7) (K : ∀ F2 : Nat → Int, PL P T F2 w v → post none (S nw nx g, 78 + gn, wr c 66 F2)) : ∀ (f k0 : Nat) (F : Nat → Int), k0 + f = 7 → (∀ q, (q < b0 ∨ b0 + 7 ≤ q) → F q = F0 q) → (∀ i, i < k0 → F (b0 + i) = if v = w ∧ i = 0 then 1 else 0) → SW G (j + 2) mX9_laysP 13 [some (vr (49)), some (vi (((v : Nat) : Int))), some (vi (((w : Nat) : Int))), some (vi (((b0 : Nat) : Int))), some (vi (((k0 : Nat) : Int))), none, none, none, none] [] (S nw nx g, 78 + gn, (wr c 66 F)) B0 post := by
  have h60 := GV_N hV
  have p9 := hP v w hv hw
  have l13 := (hV.2.2.1 w hw).1
  have l14 := (hV.2.2.1 v hv).1
  intro f
  induction f with
  | zero =>
    intro k0 F hk hF hG
    have e0 : k0 = 7 := by omega
    subst e0
    refine g_X9_laysP_13 hM hV hA ?_
    by_cases hvw : v = w
    · have K2 := K F (PL_u h60 hL hv hw (by rw [← hb0]; exact hF) (fun i hi => by
        rw [← hb0, hG i hi, p9.1 i (by omega) hvw]
        by_cases e : i = 0
        · rw [if_pos ⟨hvw, e⟩, if_pos e]
        · rw [if_neg (fun h => e h.2), if_neg e]))
      refine ⟨?_, ⟨fun q => ⟨?_, ?_, ⟨fun q => ?_, fun q => ⟨?_, ?_, ⟨fun q => ⟨?_, ⟨?_, ⟨?_, ⟨?_, ⟨?_, ?_⟩⟩⟩⟩⟩, fun q => ?_⟩⟩⟩⟩, fun q => ⟨?_, ?_, ⟨fun q => ⟨?_, ?_⟩, fun q => ⟨?_, ⟨fun q => ⟨?_, ?_⟩, fun q => ⟨?_, ?_⟩⟩⟩⟩⟩⟩⟩
      all_goals first | omega | exact K2 | (exfalso; omega)
    · have hG2 : ∀ i, i < 7 → F (b0 + i) = 0 := fun i hi => by rw [hG i hi, if_neg (fun h => hvw h.1)]
      cases hb : (gD P w).testBit v with
      | false =>
        have K2 := K F (PL_u h60 hL hv hw (by rw [← hb0]; exact hF) (fun i hi => by rw [← hb0, hG2 i hi, p9.2.1 i (by omega) hvw hb]))
        refine ⟨?_, ⟨fun q => ⟨?_, ?_, ⟨fun q => ?_, fun q => ⟨?_, ?_, ⟨fun q => ⟨?_, ⟨?_, ⟨?_, ⟨?_, ⟨?_, ?_⟩⟩⟩⟩⟩, fun q => ?_⟩⟩⟩⟩, fun q => ⟨?_, ?_, ⟨fun q => ⟨?_, ?_⟩, fun q => ⟨?_, ⟨fun q => ⟨?_, ?_⟩, fun q => ⟨?_, ?_⟩⟩⟩⟩⟩⟩⟩
        all_goals first | omega | exact K2 | (exfalso; omega) | exact absurd q (by decide)
      | true =>
        have l9 := p9.2.2.1 hvw hb
        have n9 := lp_X9_laysP_92 (G := G) (j := j) (nw := nw) (nx := nx) (gn := gn) (g := g) (post := post) hM hV hA hRA hP hL hv hw hb0 hvw hb rfl K ((gL P w - gL P v - 1) / 2 + 1) 0 F (by omega) hF (fun i hi => by rw [hG2 i hi, if_neg (by omega)])
        refine ⟨?_, ⟨fun q => ⟨?_, ?_, ⟨fun q => ?_, fun q => ⟨?_, ?_, ⟨fun q => ⟨?_, ⟨?_, ⟨?_, ⟨?_, ⟨?_, ?_⟩⟩⟩⟩⟩, fun q => ?_⟩⟩⟩⟩, fun q => ⟨?_, ?_, ⟨fun q => ⟨?_, ?_⟩, fun q => ⟨?_, ⟨fun q => ⟨?_, ?_⟩, fun q => ⟨?_, ?_⟩⟩⟩⟩⟩⟩⟩
        all_goals first | omega | assumption | (exfalso; omega) | contradiction | exact n9
  | succ f ih =>
    intro k0 F hk hF hG
    have nx9 := fun (z : Int) (hz : z = if v = w ∧ k0 = 0 then 1 else 0) => ih (k0 + 1) (u1 F (b0 + k0) z) (by omega) (fun q hq => by rw [u1_ne (by omega)]; exact hF q hq) (fun i hi => by
      by_cases e : i = k0
      · rw [e, u1_eq]; exact hz
      · rw [u1_ne (by omega)]; exact hG i (by omega))
    refine g_X9_laysP_13 hM hV hA ?_
    refine ⟨?_, ⟨fun q => ⟨?_, ?_, ⟨fun q => ?_, fun q => ⟨?_, ?_, ⟨fun q => ⟨?_, ⟨?_, ⟨?_, ⟨?_, ⟨?_, ?_⟩⟩⟩⟩⟩, fun q => ?_⟩⟩⟩⟩, fun q => ⟨?_, ?_, ⟨fun q => ⟨?_, ?_⟩, fun q => ⟨?_, ⟨fun q => ⟨?_, ?_⟩, fun q => ⟨?_, ?_⟩⟩⟩⟩⟩⟩⟩
    all_goals first | omega | (exfalso; omega) | exact nx9 _ (by rw [if_pos ⟨by assumption, by assumption⟩]) | exact nx9 _ (by rw [if_neg (by omega)])
theorem c_X9_laysP {G : GG} {j nw nx gn : Nat} {g : Nat → Sh} {c : Nat → Nat → Int} {post : Option AV → AM → Prop} {P : GD} {T : PT} {v w : Nat} {F : Nat → Int} (hM : ML c P) (hV : GV P) (hA : ∀ a b, a < gN P → b < gN P → c 64 (60 * a + b) = bz ((gD P b).testBit a)) (hRA : ∀ a b k, a < gN P → b < gN P → k < 14 → c 65 ((60 * a + b) * 14 + k) = rF P a b k) (hP : hPp P T) (hL : PL P T F w (v + 1)) (hv : v < gN P) (hw : w < gN P) (K : ∀ F2 : Nat → Int, PL P T F2 w v → post none (S nw nx g, 78 + gn, wr c 66 F2)) : SM G (j + 3) mX9_laysP [vr 49, vi ((v : Nat) : Int), vi ((w : Nat) : Int)] (S nw nx g, 78 + gn, wr c 66 F) 0 0 post := by
  refine sm_of wX9_laysP rfl (Nat.le_of_ble_eq_true rfl) ?_
  exact g_X9_laysP_0 (lp_X9_laysP_13 hM hV hA hRA hP hL hv hw rfl K 7 0 F (by omega) (fun q _ => rfl) (fun i hi => by omega))

