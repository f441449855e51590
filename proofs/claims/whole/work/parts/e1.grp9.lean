def w52 (c : Nat → Nat → Int) (bw : Nat → Nat) : Nat → Nat → Int := fun a i => if a = 52 then (if i < 25 then ((bw i : Nat) : Int) else c 52 i) else c a i
/-- the parts of the reference's memory, one by one -/
def RMc (c : Nat → Nat → Int) (bw : Nat → Nat) (ra rb rt rv : Nat) (rz : Bool) (fk : Nat) (fp : Int) (rk ln : Nat) (bo : Nat → Nat) : Prop :=
  (c 49 8 = (ra : Int) ∧ c 49 9 = (rb : Int) ∧ c 49 10 = (rt : Int) ∧ c 49 11 = (rv : Int) ∧ c 49 12 = bz rz ∧ c 49 2 = (fk : Int) ∧ c 49 3 = fp ∧ c 49 4 = (rk : Int) ∧ c 49 5 = (ln : Int)) ∧ (∀ i, i < 25 → c 51 i = ((bo i : Nat) : Int)) ∧ (∀ i, i < 25 → c 52 i = ((bw i : Nat) : Int))
def LMc (c : Nat → Nat → Int) (im : Nat → Nat) (bh : Nat → Nat) (ah : Nat → Nat) (lo : Nat → Nat) (fr : Nat → Nat) (la : Nat → Nat) (bk : Nat → Nat) (mo : Nat → Nat) (sp : Nat → Int) (mm : Nat) (nn : Nat) (tp : Nat) (hb : Bool) : Prop :=
  (c 49 21 = (mm : Int) ∧ c 49 22 = (nn : Int) ∧ c 49 23 = (tp : Int) ∧ c 49 24 = bz hb) ∧ (∀ i, c 53 i = ((im i : Nat) : Int) ∧ c 54 i = ((bh i : Nat) : Int) ∧ c 55 i = ((ah i : Nat) : Int) ∧ c 56 i = ((lo i : Nat) : Int) ∧ c 57 i = ((fr i : Nat) : Int) ∧ c 58 i = ((la i : Nat) : Int) ∧ c 59 i = ((bk i : Nat) : Int) ∧ c 60 i = ((mo i : Nat) : Int) ∧ c 61 i = sp i)
theorem rm_of {c : Nat → Nat → Int} {bw : Nat → Nat} {ra : Nat} {rb : Nat} {rt : Nat} {rv : Nat} {rz : Bool} {fk : Nat} {fp : Int} {rk : Nat} {ln : Nat} {bo : Nat → Nat} (h : RMc c bw ra rb rt rv rz fk fp rk ln bo) : c = rm (w52 c bw) ra rb rt rv rz fk fp rk ln bo := by
  obtain ⟨⟨h1, h2, h3, h4, h5, h6, h7, h8, h9⟩, h10, h11⟩ := h
  funext a i
  by_cases a1 : a = 49
  · subst a1
    show c 49 i = (if i = 8 then (ra : Int) else if i = 9 then (rb : Int) else if i = 10 then (rt : Int) else if i = 11 then (rv : Int) else if i = 12 then bz rz else if i = 2 then (fk : Int) else if i = 3 then fp else if i = 4 then (rk : Int) else if i = 5 then (ln : Int) else c 49 i)
    (repeat' split) <;> first | (rename_i hi; rw [hi]; assumption) | rfl
  · by_cases a2 : a = 51
    · subst a2
      show c 51 i = (if i < 25 then ((bo i : Nat) : Int) else c 51 i)
      split
      · exact h10 i (by assumption)
      · rfl
    · by_cases a3 : a = 52
      · subst a3
        show c 52 i = (if i < 25 then ((bw i : Nat) : Int) else c 52 i)
        split
        · exact h11 i (by assumption)
        · rfl
      · simp [rm, w52, a1, a2, a3]
theorem lm_of {c : Nat → Nat → Int} {im : Nat → Nat} {bh : Nat → Nat} {ah : Nat → Nat} {lo : Nat → Nat} {fr : Nat → Nat} {la : Nat → Nat} {bk : Nat → Nat} {mo : Nat → Nat} {sp : Nat → Int} {mm : Nat} {nn : Nat} {tp : Nat} {hb : Bool} (h : LMc c im bh ah lo fr la bk mo sp mm nn tp hb) : c = lm c im bh ah lo fr la bk mo sp mm nn tp hb := by
  obtain ⟨⟨h1, h2, h3, h4⟩, h5⟩ := h
  funext a i
  obtain ⟨b1, b2, b3, b4, b5, b6, b7, b8, b9⟩ := h5 i
  by_cases a1 : a = 49
  · subst a1
    show c 49 i = (if i = 21 then (mm : Int) else if i = 22 then (nn : Int) else if i = 23 then (tp : Int) else if i = 24 then bz hb else c 49 i)
    (repeat' split) <;> first | (rename_i hi; rw [hi]; assumption) | rfl
  · unfold lm
    rw [if_neg a1]
    (repeat' split) <;> first | (rename_i hi; rw [hi]; assumption) | rfl
theorem LMc_lm {c : Nat → Nat → Int} {im : Nat → Nat} {bh : Nat → Nat} {ah : Nat → Nat} {lo : Nat → Nat} {fr : Nat → Nat} {la : Nat → Nat} {bk : Nat → Nat} {mo : Nat → Nat} {sp : Nat → Int} {mm : Nat} {nn : Nat} {tp : Nat} {hb : Bool} : LMc (lm c im bh ah lo fr la bk mo sp mm nn tp hb) im bh ah lo fr la bk mo sp mm nn tp hb := ⟨⟨rfl, rfl, rfl, rfl⟩, fun i => ⟨rfl, rfl, rfl, rfl, rfl, rfl, rfl, rfl, rfl⟩⟩
section W52
variable {c : Nat → Nat → Int} {bw : Nat → Nat} {ra : Nat} {rb : Nat} {rt : Nat} {rv : Nat} {rz : Bool} {fk : Nat} {fp : Int} {rk : Nat} {ln : Nat} {bo : Nat → Nat} 
theorem rm_r52 (c : Nat → Nat → Int) (bw : Nat → Nat) (ra rb rt rv : Nat) (rz : Bool) (fk : Nat) (fp : Int) (rk ln : Nat) (bo : Nat → Nat) {x : Nat} (h : x < 25) : rm (w52 c bw) ra rb rt rv rz fk fp rk ln bo 52 x = ((bw x : Nat) : Int) := by
  show (if x < 25 then ((bw x : Nat) : Int) else c 52 x) = _
  rw [if_pos h]
theorem rm_a52 {k v : Nat} (h : k < 25) : up2 (rm (w52 c bw) ra rb rt rv rz fk fp rk ln bo) 52 k ((v : Nat) : Int) = rm (w52 c (uN bw k v)) ra rb rt rv rz fk fp rk ln bo := by
  funext a i
  by_cases h1 : a = 52
  · subst h1
    by_cases h2 : i = k
    · subst h2; simp [up2, rm, w52, uN, h]
    · simp [up2, rm, w52, h2, uN]
  · simp [up2, h1, rm, w52]
theorem rm_bw {b2 b3 : Nat → Nat} (h : ∀ i, i < 25 → bw i = b2 i) (h2 : ∀ i, i < 25 → bo i = b3 i) : rm (w52 c bw) ra rb rt rv rz fk fp rk ln bo = rm (w52 c b2) ra rb rt rv rz fk fp rk ln b3 := by
  rw [rm_bo h2]
  congr 1
  funext a i
  unfold w52
  split
  · split
    · rename_i hi; rw [h i hi]
    · rfl
  · rfl
end W52

theorem c_X9_readsAll2 {G : GG} {j nw nx gn : Nat} {g : Nat → Sh} {c : Nat → Nat → Int} {post : Option AV → AM → Prop} {nb : Nat → Nat} {n : Nat} {ra : Nat} {rb : Nat} {rt : Nat} {rv : Nat} {rz : Bool} {fk : Nat} {fp : Int} (hS : c 49 1 = ((n : Nat) : Int)) (hn : n ≤ 300) (hB : ∀ i, nb i < 256) (hT : ∀ i, i < 300 → c 50 i = ((nb i : Nat) : Int)) (K : ∀ (ra rb rt rv rk2 ln2 fk2 : Nat) (rz : Bool) (fp2 : Int) (bd2 : Nat → Nat), PRes (glP nb n 300 0 0 0 (fun _ => 0)) rk2 ln2 fk2 fp2 bd2 ∧ (rz = true ↔ fk2 ≠ 0) → post none (S nw nx g, 78 + gn, (up2 (rm c ra rb rt rv rz fk2 fp2 rk2 ln2 (rbd bd2)) 49 1 0))) : SM G (j + 7) mX9_readsAll [vr (49)] (S nw nx g, 78 + gn, (rm c ra rb rt rv rz fk fp 0 0 (rbd (fun _ => 0)))) 0 0 post := c_X9_readsAll hS hn hB hT (fun a b d e f g2 h i k l m o => K a b d e f g2 h i k l ⟨m, o⟩)

set_option maxHeartbeats 2000000 in
set_option maxRecDepth 20000 in
theorem g_X9_group_0 {G : GG} {j nw nx gn : Nat} {g : Nat → Sh} {c : Nat → Nat → Int} {post : Option AV → AM → Prop} {nb : Nat → Nat} {n : Nat} {ra : Nat} {rb : Nat} {rt : Nat} {rv : Nat} {rz : Bool} {fk : Nat} {fp : Int} {rk : Nat} {ln : Nat} {bo : Nat → Nat} {bw : Nat → Nat} (hS : c 49 1 = ((n : Nat) : Int)) (hn : n ≤ 300) (hB : ∀ i, nb i < 256) (hT : ∀ i, i < 300 → c 50 i = ((nb i : Nat) : Int))  (hv : SW G (j + 7) mX9_group 12 [some (vr (49)), some (vi (((rk : Nat) : Int))), some (vi (((ln : Nat) : Int))), some (vi (0)), none] [] (S nw nx g, 78 + gn, (rm (w52 c bw) ra rb rt rv rz fk fp rk ln bo)) B0 post) :
    SW G (j + 7) mX9_group 0 [some (vr (49)), none, none, none, none] [] (S nw nx g, 78 + gn, (rm (w52 c bw) ra rb rt rv rz fk fp rk ln bo)) B0 post := by
  refine sw_aload_n (dX9_group_0.at 0 rfl) rfl rfl ?_
  refine sw_getIE (w := ((rk : Nat) : Int)) (dX9_group_0.at 1 rfl) fp_X9_159 (S_lt 49 (by decide)) (S_49 nw nx g) rfl rfl ?_
  refine sw_istore_n (lo' := [some (vr (49)), some (vi (((rk : Nat) : Int))), none, none, none]) (dX9_group_0.at 2 rfl) rfl (by decide) rfl ?_
  refine sw_aload_n (dX9_group_0.at 3 rfl) rfl rfl ?_
  refine sw_getIE (w := ((ln : Nat) : Int)) (dX9_group_0.at 4 rfl) fp_X9_180 (S_lt 49 (by decide)) (S_49 nw nx g) rfl rfl ?_
  refine sw_istore_n (lo' := [some (vr (49)), some (vi (((rk : Nat) : Int))), some (vi (((ln : Nat) : Int))), none, none]) (dX9_group_0.at 5 rfl) rfl (by decide) rfl ?_
  refine sw_iconst (dX9_group_0.at 6 rfl) ?_
  refine sw_istore_n (lo' := [some (vr (49)), some (vi (((rk : Nat) : Int))), some (vi (((ln : Nat) : Int))), some (vi (0)), none]) (dX9_group_0.at 7 rfl) rfl (by decide) rfl ?_
  exact hv

set_option maxHeartbeats 2000000 in
set_option maxRecDepth 20000 in
theorem g_X9_group_12 {G : GG} {j nw nx gn : Nat} {g : Nat → Sh} {c : Nat → Nat → Int} {post : Option AV → AM → Prop} {nb : Nat → Nat} {n : Nat} {ra : Nat} {rb : Nat} {rt : Nat} {rv : Nat} {rz : Bool} {fk : Nat} {fp : Int} {rk : Nat} {ln : Nat} {bo : Nat → Nat} {bw : Nat → Nat} {uu : Nat} {vr_ : Nat} {vl_ : Nat} (hS : c 49 1 = ((n : Nat) : Int)) (hn : n ≤ 300) (hB : ∀ i, nb i < 256) (hT : ∀ i, i < 300 → c 50 i = ((nb i : Nat) : Int))  (hv : (uu < 2147483648) ∧ (((25 ≤ uu) → SW G (j + 7) mX9_group 54 [some (vr (49)), some (vi (((vr_ : Nat) : Int))), some (vi (((vl_ : Nat) : Int))), none, none] [] (S nw nx g, 78 + gn, (rm (w52 c bw) ra rb rt rv rz fk fp rk ln bo)) B0 post) ∧ ((¬ (25 ≤ uu)) → (uu < 25) ∧ ((uu < 25) ∧ ((uu < 2147483648) ∧ ((uu % 6 < 2147483648) ∧ (((uu % 6 ≠ 0) → (uu < 25) ∧ (SW G (j + 7) mX9_group 12 [some (vr (49)), some (vi (((vr_ : Nat) : Int))), some (vi (((vl_ : Nat) : Int))), some (vi (((uu + 1 : Nat) : Int))), none] [] (S nw nx g, 78 + gn, (rm (w52 c (uN bw uu (bo uu))) ra rb rt rv rz fk fp rk ln (uN bo uu 2))) B0 post)) ∧ ((uu % 6 = 0) → (uu < 25) ∧ (SW G (j + 7) mX9_group 12 [some (vr (49)), some (vi (((vr_ : Nat) : Int))), some (vi (((vl_ : Nat) : Int))), some (vi (((uu + 1 : Nat) : Int))), none] [] (S nw nx g, 78 + gn, (rm (w52 c (uN bw uu (bo uu))) ra rb rt rv rz fk fp rk ln (uN bo uu 1))) B0 post))))))))) :
    SW G (j + 7) mX9_group 12 [some (vr (49)), some (vi (((vr_ : Nat) : Int))), some (vi (((vl_ : Nat) : Int))), some (vi (((uu : Nat) : Int))), none] [] (S nw nx g, 78 + gn, (rm (w52 c bw) ra rb rt rv rz fk fp rk ln bo)) B0 post := by
  refine sw_iload_n (dX9_group_0.at 8 rfl) rfl rfl ?_
  refine sw_bipush (dX9_group_0.at 9 rfl) (by decide) ?_
  refine sw_icmpN_ge uu 25 (tgt := 54) (dX9_group_0.at 10 rfl) (by decide) hv.1 (by decide) (fun q => ?_) (fun q => ?_)
  · replace hv := hv.2.1 q
    exact sw_mask (bs := [true, true, true, false, false]) hv
  · replace hv := hv.2.2 q
    refine sw_aload_n (dX9_group_0.at 11 rfl) rfl rfl ?_
    refine sw_getR (dX9_group_0.at 12 rfl) fp_X9_20 (S_lt 49 (by decide)) (S_49 nw nx g) rfl rfl ?_
    refine sw_iload_n (dX9_group_0.at 13 rfl) rfl rfl ?_
    refine sw_aload_n (dX9_group_0.at 14 rfl) rfl rfl ?_
    refine sw_getR (dX9_group_0.at 15 rfl) fp_X9_17 (S_lt 49 (by decide)) (S_49 nw nx g) rfl rfl ?_
    refine sw_iload_n (dX9_group_0.at 16 rfl) rfl rfl ?_
    refine sw_ialdN uu (w := ((bo uu : Nat) : Int)) (dX9_group_0.at 17 rfl) (S_lt 51 (by decide)) (S_51 nw nx g) (by decide) hv.1 (rm_r51 (w52 c bw) ra rb rt rv rz fk fp rk ln bo hv.1) ?_
    replace hv := hv.2
    refine sw_iastN uu (dX9_group_0.at 18 rfl) (S_lt 52 (by decide)) (S_52 nw nx g) (by decide) hv.1 ?_
    refine SW.cg (M' := (S nw nx g, 78 + gn, (rm (w52 c (uN bw uu (bo uu))) ra rb rt rv rz fk fp rk ln bo))) (congrArg (fun m => (S nw nx g, 78 + gn, m)) (rm_a52 hv.1)) ?_
    replace hv := hv.2
    refine sw_aload_n (dX9_group_0.at 19 rfl) rfl rfl ?_
    refine sw_getR (dX9_group_0.at 20 rfl) fp_X9_17 (S_lt 49 (by decide)) (S_49 nw nx g) rfl rfl ?_
    refine sw_iload_n (dX9_group_0.at 21 rfl) rfl rfl ?_
    refine sw_iload_n (dX9_group_0.at 22 rfl) rfl rfl ?_
    refine sw_bipush (dX9_group_0.at 23 rfl) (by decide) ?_
    refine sw_iremN uu 6 (dX9_group_0.at 24 rfl) (by decide) (by decide) hv.1 ?_
    replace hv := hv.2
    refine sw_ifN_ne (uu % 6) (tgt := 46) (dX9_group_0.at 25 rfl) (by decide) hv.1 (fun q => ?_) (fun q => ?_)
    · replace hv := hv.2.1 q
      refine sw_iconst (dX9_group_0.at 28 rfl) ?_
      refine sw_iastN uu (dX9_group_0.at 29 rfl) (S_lt 51 (by decide)) (S_51 nw nx g) (by decide) hv.1 ?_
      refine SW.cg (M' := (S nw nx g, 78 + gn, (rm (w52 c (uN bw uu (bo uu))) ra rb rt rv rz fk fp rk ln (uN bo uu 2)))) (congrArg (fun m => (S nw nx g, 78 + gn, m)) (rm_a51 hv.1)) ?_
      replace hv := hv.2
      refine sw_iinc (lo' := [some (vr (49)), some (vi (((vr_ : Nat) : Int))), some (vi (((vl_ : Nat) : Int))), some (vi (((uu + 1 : Nat) : Int))), none]) (dX9_group_0.at 30 rfl) rfl (by decide) rfl ?_
      refine sw_goto (tgt := 12) (dX9_group_0.at 31 rfl) (by decide) ?_
      exact hv
    · replace hv := hv.2.2 q
      refine sw_iconst (dX9_group_0.at 26 rfl) ?_
      refine sw_goto (tgt := 47) (dX9_group_0.at 27 rfl) (by decide) ?_
      refine sw_iastN uu (dX9_group_0.at 29 rfl) (S_lt 51 (by decide)) (S_51 nw nx g) (by decide) hv.1 ?_
      refine SW.cg (M' := (S nw nx g, 78 + gn, (rm (w52 c (uN bw uu (bo uu))) ra rb rt rv rz fk fp rk ln (uN bo uu 1)))) (congrArg (fun m => (S nw nx g, 78 + gn, m)) (rm_a51 hv.1)) ?_
      replace hv := hv.2
      refine sw_iinc (lo' := [some (vr (49)), some (vi (((vr_ : Nat) : Int))), some (vi (((vl_ : Nat) : Int))), some (vi (((uu + 1 : Nat) : Int))), none]) (dX9_group_0.at 30 rfl) rfl (by decide) rfl ?_
      refine sw_goto (tgt := 12) (dX9_group_0.at 31 rfl) (by decide) ?_
      exact hv

set_option maxHeartbeats 2000000 in
set_option maxRecDepth 20000 in
theorem g_X9_group_54 {G : GG} {j nw nx gn : Nat} {g : Nat → Sh} {c : Nat → Nat → Int} {post : Option AV → AM → Prop} {nb : Nat → Nat} {n : Nat} {ra : Nat} {rb : Nat} {rt : Nat} {rv : Nat} {rz : Bool} {fk : Nat} {fp : Int} {rk : Nat} {ln : Nat} {bw : Nat → Nat} {vr_ : Nat} {vl_ : Nat} (hS : c 49 1 = ((n : Nat) : Int)) (hn : n ≤ 300) (hB : ∀ i, nb i < 256) (hT : ∀ i, i < 300 → c 50 i = ((nb i : Nat) : Int))  (hv : (∀ (ra_1 : Nat), ∀ (rb_1 : Nat), ∀ (rt_1 : Nat), ∀ (rv_1 : Nat), ∀ (rk_1 : Nat), ∀ (ln_1 : Nat), ∀ (fk_1 : Nat), ∀ (rz_1 : Bool), ∀ (fp_1 : Int), ∀ (bd_1 : Nat → Nat), (PRes (glP nb n 300 0 0 0 (fun _ => 0)) rk_1 ln_1 fk_1 fp_1 bd_1 ∧ (rz_1 = true ↔ fk_1 ≠ 0)) → ((rz_1 = false) → SW G (j + 7) mX9_group 80 [some (vr (49)), some (vi (((vr_ : Nat) : Int))), some (vi (((vl_ : Nat) : Int))), none, none] [] (S nw nx g, 78 + gn, (up2 (rm (w52 c bw) ra_1 rb_1 rt_1 rv_1 rz_1 fk_1 fp_1 rk_1 ln_1 (rbd bd_1)) 49 1 0)) B0 post) ∧ ((rz_1 = true) → SW G (j + 7) mX9_group 101 [some (vr (49)), some (vi (((vr_ : Nat) : Int))), some (vi (((vl_ : Nat) : Int))), some (vi ((-4))), none] [] (S nw nx g, 78 + gn, (up2 (rm (w52 c bw) ra_1 rb_1 rt_1 rv_1 rz_1 fk_1 fp_1 rk_1 ln_1 (rbd bd_1)) 49 1 0)) B0 post))) :
    SW G (j + 7) mX9_group 54 [some (vr (49)), some (vi (((vr_ : Nat) : Int))), some (vi (((vl_ : Nat) : Int))), none, none] [] (S nw nx g, 78 + gn, (rm (w52 c bw) ra rb rt rv rz fk fp rk ln (rbd (fun _ => 0)))) B0 post := by
  refine sw_aload_n (dX9_group_0.at 32 rfl) rfl rfl ?_
  refine sw_iconst (dX9_group_0.at 33 rfl) ?_
  refine sw_putI (dX9_group_0.at 34 rfl) fp_X9_159 (S_lt 49 (by decide)) (S_49 nw nx g) rfl ?_
  refine SW.cg (M' := (S nw nx g, 78 + gn, (rm (w52 c bw) ra rb rt rv rz fk fp 0 ln (rbd (fun _ => 0))))) (congrArg (fun m => (S nw nx g, 78 + gn, m)) rm_4) ?_
  refine sw_aload_n (dX9_group_0.at 35 rfl) rfl rfl ?_
  refine sw_iconst (dX9_group_0.at 36 rfl) ?_
  refine sw_putI (dX9_group_0.at 37 rfl) fp_X9_180 (S_lt 49 (by decide)) (S_49 nw nx g) rfl ?_
  refine SW.cg (M' := (S nw nx g, 78 + gn, (rm (w52 c bw) ra rb rt rv rz fk fp 0 0 (rbd (fun _ => 0))))) (congrArg (fun m => (S nw nx g, 78 + gn, m)) rm_5) ?_
  refine sw_aload_n (dX9_group_0.at 38 rfl) rfl rfl ?_
  refine sw_callV (B' := B0) (As := []) (mc := 0) (ms := 0) (dX9_group_0.at 39 rfl) lk_X9_189 (S_lt 49 (by decide)) (S_49 nw nx g) rfl rfl (Nat.le_of_ble_eq_true rfl) rfl (Nat.le_refl _) (Nat.le_refl _) ?_
  refine c_X9_readsAll2 (j := j + 0) hS hn hB hT (fun ra_1 rb_1 rt_1 rv_1 rk_1 ln_1 fk_1 rz_1 fp_1 bd_1 q2 => ?_) 
  · replace hv := hv ra_1 rb_1 rt_1 rv_1 rk_1 ln_1 fk_1 rz_1 fp_1 bd_1 q2
    refine sw_aload_n (dX9_group_0.at 40 rfl) rfl rfl ?_
    refine sw_getIE (w := bz (rz_1)) (dX9_group_0.at 41 rfl) fp_X9_131 (S_lt 49 (by decide)) (S_49 nw nx g) rfl ((up2_ne (c := (rm (w52 c bw) ra_1 rb_1 rt_1 rv_1 rz_1 fk_1 fp_1 rk_1 ln_1 (rbd bd_1))) (i := 49) (k := 1) (z := 0) (i' := 49) (k' := 12) (Or.inr (by decide))).trans rfl) ?_
    refine sw_if_eq (tgt := 80) (dX9_group_0.at 42 rfl) (by decide) (bz_rng _) (fun q => ?_) (fun q => ?_)
    · replace hv := hv.1 (bz_0 q)
      exact hv
    · replace hv := hv.2 (bz_n0 q)
      refine sw_bipush (dX9_group_0.at 43 rfl) (by decide) ?_
      refine sw_goto (tgt := 96) (dX9_group_0.at 44 rfl) (by decide) ?_
      refine sw_istore_n (lo' := [some (vr (49)), some (vi (((vr_ : Nat) : Int))), some (vi (((vl_ : Nat) : Int))), some (vi ((-4))), none]) (dX9_group_1.at 2 rfl) rfl (by decide) rfl ?_
      refine sw_iload_n (dX9_group_1.at 3 rfl) rfl rfl ?_
      refine sw_if_ge (tgt := 148) (dX9_group_1.at 4 rfl) (by decide) (by decide) (fun q => ?_) (fun q => ?_)
      · exact absurd q (by decide)
      · clear q
        exact hv

set_option maxHeartbeats 2000000 in
set_option maxRecDepth 20000 in
theorem g_X9_group_101_4 {G : GG} {j nw nx gn : Nat} {g : Nat → Sh} {c : Nat → Nat → Int} {post : Option AV → AM → Prop} {nb : Nat → Nat} {n : Nat} {ra : Nat} {rb : Nat} {rt : Nat} {rv : Nat} {rz : Bool} {fk : Nat} {fp : Int} {rk : Nat} {ln : Nat} {bo : Nat → Nat} {bw : Nat → Nat} {vr_ : Nat} {vl_ : Nat} (hS : c 49 1 = ((n : Nat) : Int)) (hn : n ≤ 300) (hB : ∀ i, nb i < 256) (hT : ∀ i, i < 300 → c 50 i = ((nb i : Nat) : Int))  (hv : SW G (j + 7) mX9_group 114 [some (vr (49)), some (vi (((vr_ : Nat) : Int))), some (vi (((vl_ : Nat) : Int))), some (vi ((-4))), some (vi (0))] [] (S nw nx g, 78 + gn, (rm (w52 c bw) ra rb rt rv rz fk fp vr_ vl_ bo)) B0 post) :
    SW G (j + 7) mX9_group 101 [some (vr (49)), some (vi (((vr_ : Nat) : Int))), some (vi (((vl_ : Nat) : Int))), some (vi ((-4))), none] [] (S nw nx g, 78 + gn, (rm (w52 c bw) ra rb rt rv rz fk fp rk ln bo)) B0 post := by
  refine sw_aload_n (dX9_group_1.at 5 rfl) rfl rfl ?_
  refine sw_iload_n (dX9_group_1.at 6 rfl) rfl rfl ?_
  refine sw_putI (dX9_group_1.at 7 rfl) fp_X9_159 (S_lt 49 (by decide)) (S_49 nw nx g) rfl ?_
  refine SW.cg (M' := (S nw nx g, 78 + gn, (rm (w52 c bw) ra rb rt rv rz fk fp vr_ ln bo))) (congrArg (fun m => (S nw nx g, 78 + gn, m)) rm_4) ?_
  refine sw_aload_n (dX9_group_1.at 8 rfl) rfl rfl ?_
  refine sw_iload_n (dX9_group_1.at 9 rfl) rfl rfl ?_
  refine sw_putI (dX9_group_1.at 10 rfl) fp_X9_180 (S_lt 49 (by decide)) (S_49 nw nx g) rfl ?_
  refine SW.cg (M' := (S nw nx g, 78 + gn, (rm (w52 c bw) ra rb rt rv rz fk fp vr_ vl_ bo))) (congrArg (fun m => (S nw nx g, 78 + gn, m)) rm_5) ?_
  refine sw_iconst (dX9_group_1.at 11 rfl) ?_
  refine sw_istore (lo' := [some (vr (49)), some (vi (((vr_ : Nat) : Int))), some (vi (((vl_ : Nat) : Int))), some (vi ((-4))), some (vi (0))]) (dX9_group_1.at 12 rfl) (by decide) rfl ?_
  exact hv

set_option maxHeartbeats 2000000 in
set_option maxRecDepth 20000 in
theorem g_X9_group_114_4 {G : GG} {j nw nx gn : Nat} {g : Nat → Sh} {c : Nat → Nat → Int} {post : Option AV → AM → Prop} {nb : Nat → Nat} {n : Nat} {ra : Nat} {rb : Nat} {rt : Nat} {rv : Nat} {rz : Bool} {fk : Nat} {fp : Int} {rk : Nat} {ln : Nat} {bo : Nat → Nat} {bw : Nat → Nat} {uu : Nat} {vr_ : Nat} {vl_ : Nat} (hS : c 49 1 = ((n : Nat) : Int)) (hn : n ≤ 300) (hB : ∀ i, nb i < 256) (hT : ∀ i, i < 300 → c 50 i = ((nb i : Nat) : Int))  (hv : (uu < 2147483648) ∧ (((25 ≤ uu) → SW G (j + 7) mX9_group 141 [some (vr (49)), none, none, some (vi ((-4))), none] [] (S nw nx g, 78 + gn, (rm (w52 c bw) ra rb rt rv rz fk fp rk ln bo)) B0 post) ∧ ((¬ (25 ≤ uu)) → (uu < 25) ∧ ((uu < 25) ∧ (SW G (j + 7) mX9_group 114 [some (vr (49)), some (vi (((vr_ : Nat) : Int))), some (vi (((vl_ : Nat) : Int))), some (vi ((-4))), some (vi (((uu + 1 : Nat) : Int)))] [] (S nw nx g, 78 + gn, (rm (w52 c bw) ra rb rt rv rz fk fp rk ln (uN bo uu (bw uu)))) B0 post))))) :
    SW G (j + 7) mX9_group 114 [some (vr (49)), some (vi (((vr_ : Nat) : Int))), some (vi (((vl_ : Nat) : Int))), some (vi ((-4))), some (vi (((uu : Nat) : Int)))] [] (S nw nx g, 78 + gn, (rm (w52 c bw) ra rb rt rv rz fk fp rk ln bo)) B0 post := by
  refine sw_iload (dX9_group_1.at 13 rfl) rfl ?_
  refine sw_bipush (dX9_group_1.at 14 rfl) (by decide) ?_
  refine sw_icmpN_ge uu 25 (tgt := 141) (dX9_group_1.at 15 rfl) (by decide) hv.1 (by decide) (fun q => ?_) (fun q => ?_)
  · replace hv := hv.2.1 q
    exact sw_mask (bs := [true, false, false, true, false]) hv
  · replace hv := hv.2.2 q
    refine sw_aload_n (dX9_group_1.at 16 rfl) rfl rfl ?_
    refine sw_getR (dX9_group_1.at 17 rfl) fp_X9_17 (S_lt 49 (by decide)) (S_49 nw nx g) rfl rfl ?_
    refine sw_iload (dX9_group_1.at 18 rfl) rfl ?_
    refine sw_aload_n (dX9_group_1.at 19 rfl) rfl rfl ?_
    refine sw_getR (dX9_group_1.at 20 rfl) fp_X9_20 (S_lt 49 (by decide)) (S_49 nw nx g) rfl rfl ?_
    refine sw_iload (dX9_group_1.at 21 rfl) rfl ?_
    refine sw_ialdN uu (w := ((bw uu : Nat) : Int)) (dX9_group_1.at 22 rfl) (S_lt 52 (by decide)) (S_52 nw nx g) (by decide) hv.1 (rm_r52 c bw ra rb rt rv rz fk fp rk ln bo hv.1) ?_
    replace hv := hv.2
    refine sw_iastN uu (dX9_group_1.at 23 rfl) (S_lt 51 (by decide)) (S_51 nw nx g) (by decide) hv.1 ?_
    refine SW.cg (M' := (S nw nx g, 78 + gn, (rm (w52 c bw) ra rb rt rv rz fk fp rk ln (uN bo uu (bw uu))))) (congrArg (fun m => (S nw nx g, 78 + gn, m)) (rm_a51 hv.1)) ?_
    replace hv := hv.2
    refine sw_iinc (lo' := [some (vr (49)), some (vi (((vr_ : Nat) : Int))), some (vi (((vl_ : Nat) : Int))), some (vi ((-4))), some (vi (((uu + 1 : Nat) : Int)))]) (dX9_group_1.at 24 rfl) rfl (by decide) rfl ?_
    refine sw_goto (tgt := 114) (dX9_group_1.at 25 rfl) (by decide) ?_
    exact hv

set_option maxHeartbeats 2000000 in
set_option maxRecDepth 20000 in
theorem g_X9_group_101_5 {G : GG} {j nw nx gn : Nat} {g : Nat → Sh} {c : Nat → Nat → Int} {post : Option AV → AM → Prop} {nb : Nat → Nat} {n : Nat} {ra : Nat} {rb : Nat} {rt : Nat} {rv : Nat} {rz : Bool} {fk : Nat} {fp : Int} {rk : Nat} {ln : Nat} {bo : Nat → Nat} {bw : Nat → Nat} {vr_ : Nat} {vl_ : Nat} (hS : c 49 1 = ((n : Nat) : Int)) (hn : n ≤ 300) (hB : ∀ i, nb i < 256) (hT : ∀ i, i < 300 → c 50 i = ((nb i : Nat) : Int))  (hv : SW G (j + 7) mX9_group 114 [some (vr (49)), some (vi (((vr_ : Nat) : Int))), some (vi (((vl_ : Nat) : Int))), some (vi ((-5))), some (vi (0))] [] (S nw nx g, 78 + gn, (rm (w52 c bw) ra rb rt rv rz fk fp vr_ vl_ bo)) B0 post) :
    SW G (j + 7) mX9_group 101 [some (vr (49)), some (vi (((vr_ : Nat) : Int))), some (vi (((vl_ : Nat) : Int))), some (vi ((-5))), none] [] (S nw nx g, 78 + gn, (rm (w52 c bw) ra rb rt rv rz fk fp rk ln bo)) B0 post := by
  refine sw_aload_n (dX9_group_1.at 5 rfl) rfl rfl ?_
  refine sw_iload_n (dX9_group_1.at 6 rfl) rfl rfl ?_
  refine sw_putI (dX9_group_1.at 7 rfl) fp_X9_159 (S_lt 49 (by decide)) (S_49 nw nx g) rfl ?_
  refine SW.cg (M' := (S nw nx g, 78 + gn, (rm (w52 c bw) ra rb rt rv rz fk fp vr_ ln bo))) (congrArg (fun m => (S nw nx g, 78 + gn, m)) rm_4) ?_
  refine sw_aload_n (dX9_group_1.at 8 rfl) rfl rfl ?_
  refine sw_iload_n (dX9_group_1.at 9 rfl) rfl rfl ?_
  refine sw_putI (dX9_group_1.at 10 rfl) fp_X9_180 (S_lt 49 (by decide)) (S_49 nw nx g) rfl ?_
  refine SW.cg (M' := (S nw nx g, 78 + gn, (rm (w52 c bw) ra rb rt rv rz fk fp vr_ vl_ bo))) (congrArg (fun m => (S nw nx g, 78 + gn, m)) rm_5) ?_
  refine sw_iconst (dX9_group_1.at 11 rfl) ?_
  refine sw_istore (lo' := [some (vr (49)), some (vi (((vr_ : Nat) : Int))), some (vi (((vl_ : Nat) : Int))), some (vi ((-5))), some (vi (0))]) (dX9_group_1.at 12 rfl) (by decide) rfl ?_
  exact hv

set_option maxHeartbeats 2000000 in
set_option maxRecDepth 20000 in
theorem g_X9_group_114_5 {G : GG} {j nw nx gn : Nat} {g : Nat → Sh} {c : Nat → Nat → Int} {post : Option AV → AM → Prop} {nb : Nat → Nat} {n : Nat} {ra : Nat} {rb : Nat} {rt : Nat} {rv : Nat} {rz : Bool} {fk : Nat} {fp : Int} {rk : Nat} {ln : Nat} {bo : Nat → Nat} {bw : Nat → Nat} {uu : Nat} {vr_ : Nat} {vl_ : Nat} (hS : c 49 1 = ((n : Nat) : Int)) (hn : n ≤ 300) (hB : ∀ i, nb i < 256) (hT : ∀ i, i < 300 → c 50 i = ((nb i : Nat) : Int))  (hv : (uu < 2147483648) ∧ (((25 ≤ uu) → SW G (j + 7) mX9_group 141 [some (vr (49)), none, none, some (vi ((-5))), none] [] (S nw nx g, 78 + gn, (rm (w52 c bw) ra rb rt rv rz fk fp rk ln bo)) B0 post) ∧ ((¬ (25 ≤ uu)) → (uu < 25) ∧ ((uu < 25) ∧ (SW G (j + 7) mX9_group 114 [some (vr (49)), some (vi (((vr_ : Nat) : Int))), some (vi (((vl_ : Nat) : Int))), some (vi ((-5))), some (vi (((uu + 1 : Nat) : Int)))] [] (S nw nx g, 78 + gn, (rm (w52 c bw) ra rb rt rv rz fk fp rk ln (uN bo uu (bw uu)))) B0 post))))) :
    SW G (j + 7) mX9_group 114 [some (vr (49)), some (vi (((vr_ : Nat) : Int))), some (vi (((vl_ : Nat) : Int))), some (vi ((-5))), some (vi (((uu : Nat) : Int)))] [] (S nw nx g, 78 + gn, (rm (w52 c bw) ra rb rt rv rz fk fp rk ln bo)) B0 post := by
  refine sw_iload (dX9_group_1.at 13 rfl) rfl ?_
  refine sw_bipush (dX9_group_1.at 14 rfl) (by decide) ?_
  refine sw_icmpN_ge uu 25 (tgt := 141) (dX9_group_1.at 15 rfl) (by decide) hv.1 (by decide) (fun q => ?_) (fun q => ?_)
  · replace hv := hv.2.1 q
    exact sw_mask (bs := [true, false, false, true, false]) hv
  · replace hv := hv.2.2 q
    refine sw_aload_n (dX9_group_1.at 16 rfl) rfl rfl ?_
    refine sw_getR (dX9_group_1.at 17 rfl) fp_X9_17 (S_lt 49 (by decide)) (S_49 nw nx g) rfl rfl ?_
    refine sw_iload (dX9_group_1.at 18 rfl) rfl ?_
    refine sw_aload_n (dX9_group_1.at 19 rfl) rfl rfl ?_
    refine sw_getR (dX9_group_1.at 20 rfl) fp_X9_20 (S_lt 49 (by decide)) (S_49 nw nx g) rfl rfl ?_
    refine sw_iload (dX9_group_1.at 21 rfl) rfl ?_
    refine sw_ialdN uu (w := ((bw uu : Nat) : Int)) (dX9_group_1.at 22 rfl) (S_lt 52 (by decide)) (S_52 nw nx g) (by decide) hv.1 (rm_r52 c bw ra rb rt rv rz fk fp rk ln bo hv.1) ?_
    replace hv := hv.2
    refine sw_iastN uu (dX9_group_1.at 23 rfl) (S_lt 51 (by decide)) (S_51 nw nx g) (by decide) hv.1 ?_
    refine SW.cg (M' := (S nw nx g, 78 + gn, (rm (w52 c bw) ra rb rt rv rz fk fp rk ln (uN bo uu (bw uu))))) (congrArg (fun m => (S nw nx g, 78 + gn, m)) (rm_a51 hv.1)) ?_
    replace hv := hv.2
    refine sw_iinc (lo' := [some (vr (49)), some (vi (((vr_ : Nat) : Int))), some (vi (((vl_ : Nat) : Int))), some (vi ((-5))), some (vi (((uu + 1 : Nat) : Int)))]) (dX9_group_1.at 24 rfl) rfl (by decide) rfl ?_
    refine sw_goto (tgt := 114) (dX9_group_1.at 25 rfl) (by decide) ?_
    exact hv

theorem lp_X9_group_12 {G : GG} {j nw nx gn : Nat} {g : Nat → Sh} {c : Nat → Nat → Int} {post : Option AV → AM → Prop} {nb : Nat → Nat} {n : Nat} {ra : Nat} {rb : Nat} {rt : Nat} {rv : Nat} {rz : Bool} {fk : Nat} {fp : Int} {rk : Nat} {ln : Nat} {vr_ vl_ : Nat} {bo : Nat → Nat} (hS : c 49 1 = ((n : Nat) : Int)) (hn : n ≤ 300) (hB : ∀ i, nb i < 256) (hT : ∀ i, i < 300 → c 50 i = ((nb i : Nat) : Int)) (hbo : ∀ i, i < 25 → bo i < 100) (K : SW G (j + 7) mX9_group 54 [some (vr (49)), some (vi (((vr_ : Nat) : Int))), some (vi (((vl_ : Nat) : Int))), none, none] [] (S nw nx g, 78 + gn, (rm (w52 c bo) ra rb rt rv rz fk fp rk ln (rbd (fun _ => 0)))) B0 post) : ∀ (t uu : Nat) (bw b2 : Nat → Nat), uu + t = 25 → (∀ i, i < 25 → (i < uu → bw i = bo i ∧ b2 i = rbd (fun _ => 0) i) ∧ (uu ≤ i → b2 i = bo i)) → SW G (j + 7) mX9_group 12 [some (vr (49)), some (vi (((vr_ : Nat) : Int))), some (vi (((vl_ : Nat) : Int))), some (vi (((uu : Nat) : Int))), none] [] (S nw nx g, 78 + gn, (rm (w52 c bw) ra rb rt rv rz fk fp rk ln b2)) B0 post := by
  intro t
  induction t with
  | zero =>
    intro uu bw b2 hu h
    rw [rm_bw (fun i hi => ((h i hi).1 (by omega)).1) (fun i hi => ((h i hi).1 (by omega)).2)]
    refine g_X9_group_12 hS hn hB hT ?_
    refine ⟨?_, ⟨fun q => ?_, fun q => ⟨?_, ⟨?_, ⟨?_, ⟨?_, ⟨fun q => ⟨?_, ?_⟩, fun q => ⟨?_, ?_⟩⟩⟩⟩⟩⟩⟩⟩
    all_goals first | omega | (exfalso; omega) | exact K
  | succ t ih =>
    intro uu bw b2 hu h
    have h1 := (h uu (by omega)).2 (Nat.le_refl _)
    have h2 := hbo uu (by omega)
    have nxt : ∀ v, v = rbd (fun _ => 0) uu → ∀ i, i < 25 → (i < uu + 1 → uN bw uu (b2 uu) i = bo i ∧ uN b2 uu v i = rbd (fun _ => 0) i) ∧ (uu + 1 ≤ i → uN b2 uu v i = bo i) := by
      intro v hv i hi
      by_cases e : i = uu
      · subst e
        refine ⟨fun _ => ⟨by rw [uN, if_pos rfl, h1], by rw [uN, if_pos rfl, hv]⟩, fun q => absurd q (by omega)⟩
      · rw [uN, if_neg e, uN, if_neg e]
        exact ⟨fun q => (h i hi).1 (by omega), fun q => (h i hi).2 (by omega)⟩
    refine g_X9_group_12 hS hn hB hT ?_
    refine ⟨?_, ⟨fun q => ?_, fun q => ⟨?_, ⟨?_, ⟨?_, ⟨?_, ⟨fun q => ⟨?_, ?_⟩, fun q => ⟨?_, ?_⟩⟩⟩⟩⟩⟩⟩⟩
    all_goals first | omega | (exfalso; omega) | exact ih _ _ _ (by omega) (nxt _ (by unfold rbd; rw [if_pos (by omega)])) | exact ih _ _ _ (by omega) (nxt _ (by unfold rbd; rw [if_neg (by omega)]; rfl))

theorem lp_X9_group_114_4 {G : GG} {j nw nx gn : Nat} {g : Nat → Sh} {c : Nat → Nat → Int} {post : Option AV → AM → Prop} {nb : Nat → Nat} {n : Nat} {ra : Nat} {rb : Nat} {rt : Nat} {rv : Nat} {rz : Bool} {fk : Nat} {fp : Int} {rk : Nat} {ln : Nat} {vr_ vl_ : Nat} {bw : Nat → Nat} (hS : c 49 1 = ((n : Nat) : Int)) (hn : n ≤ 300) (hB : ∀ i, nb i < 256) (hT : ∀ i, i < 300 → c 50 i = ((nb i : Nat) : Int)) (hbw : ∀ i, i < 25 → bw i < 100) (K : SW G (j + 7) mX9_group 141 [some (vr (49)), none, none, some (vi ((-4))), none] [] (S nw nx g, 78 + gn, (rm (w52 c bw) ra rb rt rv rz fk fp rk ln bw)) B0 post) : ∀ (t uu : Nat) (b2 : Nat → Nat), uu + t = 25 → (∀ i, i < uu → b2 i = bw i) → SW G (j + 7) mX9_group 114 [some (vr (49)), some (vi (((vr_ : Nat) : Int))), some (vi (((vl_ : Nat) : Int))), some (vi ((-4))), some (vi (((uu : Nat) : Int)))] [] (S nw nx g, 78 + gn, (rm (w52 c bw) ra rb rt rv rz fk fp rk ln b2)) B0 post := by
  intro t
  induction t with
  | zero =>
    intro uu b2 hu h
    rw [rm_bo (fun i hi => h i (by omega))]
    refine g_X9_group_114_4 hS hn hB hT ?_
    refine ⟨?_, ⟨fun q => ?_, fun q => ⟨?_, ⟨?_, ?_⟩⟩⟩⟩
    all_goals first | omega | (exfalso; omega) | exact K
  | succ t ih =>
    intro uu b2 hu h
    have h2 := hbw uu (by omega)
    refine g_X9_group_114_4 hS hn hB hT ?_
    refine ⟨?_, ⟨fun q => ?_, fun q => ⟨?_, ⟨?_, ?_⟩⟩⟩⟩
    all_goals first | omega | (exfalso; omega) | exact ih _ _ (by omega) (fun i hi => by by_cases e : i = uu; (rw [e, uN, if_pos rfl]); (rw [uN, if_neg e]; exact h i (by omega)))

theorem lp_X9_group_114_5 {G : GG} {j nw nx gn : Nat} {g : Nat → Sh} {c : Nat → Nat → Int} {post : Option AV → AM → Prop} {nb : Nat → Nat} {n : Nat} {ra : Nat} {rb : Nat} {rt : Nat} {rv : Nat} {rz : Bool} {fk : Nat} {fp : Int} {rk : Nat} {ln : Nat} {vr_ vl_ : Nat} {bw : Nat → Nat} (hS : c 49 1 = ((n : Nat) : Int)) (hn : n ≤ 300) (hB : ∀ i, nb i < 256) (hT : ∀ i, i < 300 → c 50 i = ((nb i : Nat) : Int)) (hbw : ∀ i, i < 25 → bw i < 100) (K : SW G (j + 7) mX9_group 141 [some (vr (49)), none, none, some (vi ((-5))), none] [] (S nw nx g, 78 + gn, (rm (w52 c bw) ra rb rt rv rz fk fp rk ln bw)) B0 post) : ∀ (t uu : Nat) (b2 : Nat → Nat), uu + t = 25 → (∀ i, i < uu → b2 i = bw i) → SW G (j + 7) mX9_group 114 [some (vr (49)), some (vi (((vr_ : Nat) : Int))), some (vi (((vl_ : Nat) : Int))), some (vi ((-5))), some (vi (((uu : Nat) : Int)))] [] (S nw nx g, 78 + gn, (rm (w52 c bw) ra rb rt rv rz fk fp rk ln b2)) B0 post := by
  intro t
  induction t with
  | zero =>
    intro uu b2 hu h
    rw [rm_bo (fun i hi => h i (by omega))]
    refine g_X9_group_114_5 hS hn hB hT ?_
    refine ⟨?_, ⟨fun q => ?_, fun q => ⟨?_, ⟨?_, ?_⟩⟩⟩⟩
    all_goals first | omega | (exfalso; omega) | exact K
  | succ t ih =>
    intro uu b2 hu h
    have h2 := hbw uu (by omega)
    refine g_X9_group_114_5 hS hn hB hT ?_
    refine ⟨?_, ⟨fun q => ?_, fun q => ⟨?_, ⟨?_, ?_⟩⟩⟩⟩
    all_goals first | omega | (exfalso; omega) | exact ih _ _ (by omega) (fun i hi => by by_cases e : i = uu; (rw [e, uN, if_pos rfl]); (rw [uN, if_neg e]; exact h i (by omega)))

