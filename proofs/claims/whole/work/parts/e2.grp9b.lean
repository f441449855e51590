/-- a table as it may stand: none, or a good one -/
def STP (P : GD) (ln : Nat) : Prop := (ln = 0 ∧ P = P0) ∨ (0 < ln ∧ ln < 1000 ∧ ∃ T, GOOD P T)
theorem STP_R {P : GD} {ln : Nat} (h : STP P ln) : gR P ≤ 5 := by
  rcases h with ⟨_, rfl⟩ | ⟨_, _, T, h⟩
  · show 0 ≤ 5; decide
  · exact GV_R h.1.1.1
theorem STP_ln {P : GD} {ln : Nat} (h : STP P ln) : ln < 1000 := by
  rcases h with ⟨h, _⟩ | ⟨_, h, _⟩
  · omega
  · exact h

theorem c_X9_layStd {G : GG} {j nw nx gn : Nat} {g : Nat → Sh} {c : Nat → Nat → Int} {post : Option AV → AM → Prop} {P : GD} {ln : Nat} {bo : Nat → Nat} {im : Nat → Nat} {bh : Nat → Nat} {ah : Nat → Nat} {lo : Nat → Nat} {fr : Nat → Nat} {la : Nat → Nat} {bk : Nat → Nat} {mo : Nat → Nat} {sp : Nat → Int} {mm : Nat} {nn : Nat} {tp : Nat} {hb : Bool} (hR : c 49 4 = ((gR P : Nat) : Int)) (hL : c 49 5 = ((ln : Nat) : Int)) (hBo : ∀ i, i < 25 → c 51 i = ((bo i : Nat) : Int)) (hSP : STP P ln) (hbg : ∀ s t, s < gR P → t < gR P → s ≠ t → bo (5 * s + t) = gB P s t) (K : ∀ (im bh ah lo fr la bk mo : Nat → Nat) (sp : Nat → Int), LT P bh ah lo fr la bk mo → post (some (vi 1)) (S nw nx g, 78 + gn, (lm c im bh ah lo fr la bk mo sp (gM P) (gN P) (gN P - 1) false))) : SM G (j + 6) mX9_lays [vr 49] (S nw nx g, 78 + gn, (lm c im bh ah lo fr la bk mo sp mm nn tp hb)) 0 0 post := by
  rcases hSP with ⟨h1, rfl⟩ | ⟨h1, h2, T, hG⟩
  · refine c_X9_lays_none (r := gR P0) hR hL hBo h1 ?_
    exact K im bh ah lo fr la bk mo sp ⟨fun x hx => absurd hx (by simp [gN, P0]), fun x s hx => absurd hx (by simp [gN, P0]), fun i hi => absurd hi (by simp [gM, P0])⟩
  · have hGK := hG.1.1
    obtain ⟨f1, f2, f3, f4, ⟨im0, f5⟩, f6⟩ := hG.2.1
    have h0 : 0 < gN P := hGK.2.2.2.2.2.2.2.2.2
    have hF : FI P bo im0 := FI_bo hGK.1 f5 (fun s q a b d => by rw [hbg s q a b (Ne.symm d)]; unfold gB boP; congr 1; omega)
    exact c_X9_lays_good hR hL hBo hGK.1 hGK.2.1 h0 hF f3 (fun s q a b d => by rw [hbg s q a b (Ne.symm d)]; exact ⟨f6 s q a b d, hGK.1.2.1 s q a b⟩) h1 h2 K

set_option maxHeartbeats 2000000 in
set_option maxRecDepth 20000 in
theorem g_X9_group_80P {G : GG} {j nw nx gn : Nat} {g : Nat → Sh} {c : Nat → Nat → Int} {post : Option AV → AM → Prop} {P : GD} {ln : Nat} {bo : Nat → Nat} {im : Nat → Nat} {bh : Nat → Nat} {ah : Nat → Nat} {lo : Nat → Nat} {fr : Nat → Nat} {la : Nat → Nat} {bk : Nat → Nat} {mo : Nat → Nat} {sp : Nat → Int} {mm : Nat} {nn : Nat} {tp : Nat} {hb : Bool} {vr_ : Nat} {vl_ : Nat} (hR : c 49 4 = ((gR P : Nat) : Int)) (hL : c 49 5 = ((ln : Nat) : Int)) (hBo : ∀ i, i < 25 → c 51 i = ((bo i : Nat) : Int)) (hSP : STP P ln) (hbg : ∀ s t, s < gR P → t < gR P → s ≠ t → bo (5 * s + t) = gB P s t)  (hv : (∀ (im_1 : Nat → Nat), ∀ (bh_1 : Nat → Nat), ∀ (ah_1 : Nat → Nat), ∀ (lo_1 : Nat → Nat), ∀ (fr_1 : Nat → Nat), ∀ (la_1 : Nat → Nat), ∀ (bk_1 : Nat → Nat), ∀ (mo_1 : Nat → Nat), ∀ (sp_1 : Nat → Int), (LT P bh_1 ah_1 lo_1 fr_1 la_1 bk_1 mo_1) → (gN P < 2147483648) ∧ (((0 ≤ ((gN P : Nat) : Int)) → post (some (vi (((gN P : Nat) : Int)))) (S nw nx g, 78 + gn, (up2 (up2 (up2 (up2 (up2 (lm c im_1 bh_1 ah_1 lo_1 fr_1 la_1 bk_1 mo_1 sp_1 (gM P) (gN P) (gN P - 1) false) 49 39 0) 49 38 0) 77 0 0) 77 1 0) 77 2 0))) ∧ ((¬ (0 ≤ ((gN P : Nat) : Int))) → SW G (j + 7) mX9_group 101 [some (vr (49)), some (vi (((vr_ : Nat) : Int))), some (vi (((vl_ : Nat) : Int))), some (vi (((gN P : Nat) : Int))), none] [] (S nw nx g, 78 + gn, (lm c im_1 bh_1 ah_1 lo_1 fr_1 la_1 bk_1 mo_1 sp_1 (gM P) (gN P) (gN P - 1) false)) B0 post)))) :
    SW G (j + 7) mX9_group 80 [some (vr (49)), some (vi (((vr_ : Nat) : Int))), some (vi (((vl_ : Nat) : Int))), none, none] [] (S nw nx g, 78 + gn, (lm c im bh ah lo fr la bk mo sp mm nn tp hb)) B0 post := by
  refine sw_aload_n (dX9_group_0.at 45 rfl) rfl rfl ?_
  refine sw_callV (B' := B0) (As := []) (mc := 0) (ms := 0) (dX9_group_0.at 46 rfl) lk_X9_192 (S_lt 49 (by decide)) (S_49 nw nx g) rfl rfl (Nat.le_of_ble_eq_true rfl) rfl (Nat.le_refl _) (Nat.le_refl _) ?_
  refine c_X9_layStd (j := j + 1) hR hL hBo hSP hbg (fun im_1 bh_1 ah_1 lo_1 fr_1 la_1 bk_1 mo_1 sp_1 q2 => ?_) 
  · replace hv := hv im_1 bh_1 ah_1 lo_1 fr_1 la_1 bk_1 mo_1 sp_1 q2
    refine sw_if_eq (tgt := 94) (dX9_group_0.at 47 rfl) (by decide) (by decide) (fun q => ?_) (fun q => ?_)
    · exact absurd q (by decide)
    · clear q
      refine sw_aload_n (dX9_group_0.at 48 rfl) rfl rfl ?_
      refine sw_getIE (w := ((gN P : Nat) : Int)) (dX9_group_0.at 49 rfl) fp_X9_196 (S_lt 49 (by decide)) (S_49 nw nx g) rfl rfl ?_
      refine sw_goto (tgt := 96) (dX9_group_1.at 0 rfl) (by decide) ?_
      refine sw_istore_n (lo' := [some (vr (49)), some (vi (((vr_ : Nat) : Int))), some (vi (((vl_ : Nat) : Int))), some (vi (((gN P : Nat) : Int))), none]) (dX9_group_1.at 2 rfl) rfl (by decide) rfl ?_
      refine sw_iload_n (dX9_group_1.at 3 rfl) rfl rfl ?_
      refine sw_if_ge (tgt := 148) (dX9_group_1.at 4 rfl) (by decide) (nrng hv.1) (fun q => ?_) (fun q => ?_)
      · replace hv := hv.2.1 q
        refine sw_aload_n (dX9_group_1.at 31 rfl) rfl rfl ?_
        refine sw_iconst (dX9_group_1.at 32 rfl) ?_
        refine sw_putI (dX9_group_1.at 33 rfl) fp_X9_199 (S_lt 49 (by decide)) (S_49 nw nx g) rfl ?_
        refine sw_aload_n (dX9_group_1.at 34 rfl) rfl rfl ?_
        refine sw_lconst (z := 0) (dX9_group_1.at 35 rfl) (by decide) ?_
        refine sw_putL (dX9_group_1.at 36 rfl) fp_X9_202 (S_lt 49 (by decide)) (S_49 nw nx g) rfl ?_
        refine sw_iconst (dX9_group_1.at 37 rfl) ?_
        refine sw_istore (lo' := [some (vr (49)), some (vi (((vr_ : Nat) : Int))), some (vi (((vl_ : Nat) : Int))), some (vi (((gN P : Nat) : Int))), some (vi (0))]) (dX9_group_1.at 38 rfl) (by decide) rfl ?_
        refine sw_iload (dX9_group_1.at 39 rfl) rfl ?_
        refine sw_iconst (dX9_group_1.at 40 rfl) ?_
        refine sw_icmp_ge (tgt := 181) (dX9_group_1.at 41 rfl) (by decide) (by decide) (by decide) (fun q => ?_) (fun q => ?_)
        · exact absurd q (by decide)
        · clear q
          refine sw_aload_n (dX9_group_1.at 42 rfl) rfl rfl ?_
          refine sw_getR (dX9_group_1.at 43 rfl) fp_X9_98 (S_lt 49 (by decide)) (S_49 nw nx g) rfl rfl ?_
          refine sw_iload (dX9_group_1.at 44 rfl) rfl ?_
          refine sw_iconst (dX9_group_1.at 45 rfl) ?_
          refine sw_zastN 0 (dX9_group_1.at 46 rfl) (S_lt 77 (by decide)) (S_77 nw nx g) (by decide) (by decide) (by decide) ?_
          refine sw_iinc (lo' := [some (vr (49)), some (vi (((vr_ : Nat) : Int))), some (vi (((vl_ : Nat) : Int))), some (vi (((gN P : Nat) : Int))), some (vi (1))]) (dX9_group_1.at 47 rfl) rfl (by decide) rfl ?_
          refine sw_goto (tgt := 161) (dX9_group_1.at 48 rfl) (by decide) ?_
          refine sw_iload (dX9_group_1.at 39 rfl) rfl ?_
          refine sw_iconst (dX9_group_1.at 40 rfl) ?_
          refine sw_icmp_ge (tgt := 181) (dX9_group_1.at 41 rfl) (by decide) (by decide) (by decide) (fun q => ?_) (fun q => ?_)
          · exact absurd q (by decide)
          · clear q
            refine sw_aload_n (dX9_group_1.at 42 rfl) rfl rfl ?_
            refine sw_getR (dX9_group_1.at 43 rfl) fp_X9_98 (S_lt 49 (by decide)) (S_49 nw nx g) rfl rfl ?_
            refine sw_iload (dX9_group_1.at 44 rfl) rfl ?_
            refine sw_iconst (dX9_group_1.at 45 rfl) ?_
            refine sw_zastN 1 (dX9_group_1.at 46 rfl) (S_lt 77 (by decide)) (S_77 nw nx g) (by decide) (by decide) (by decide) ?_
            refine sw_iinc (lo' := [some (vr (49)), some (vi (((vr_ : Nat) : Int))), some (vi (((vl_ : Nat) : Int))), some (vi (((gN P : Nat) : Int))), some (vi (2))]) (dX9_group_1.at 47 rfl) rfl (by decide) rfl ?_
            refine sw_goto (tgt := 161) (dX9_group_1.at 48 rfl) (by decide) ?_
            refine sw_iload (dX9_group_1.at 39 rfl) rfl ?_
            refine sw_iconst (dX9_group_1.at 40 rfl) ?_
            refine sw_icmp_ge (tgt := 181) (dX9_group_1.at 41 rfl) (by decide) (by decide) (by decide) (fun q => ?_) (fun q => ?_)
            · exact absurd q (by decide)
            · clear q
              refine sw_aload_n (dX9_group_1.at 42 rfl) rfl rfl ?_
              refine sw_getR (dX9_group_1.at 43 rfl) fp_X9_98 (S_lt 49 (by decide)) (S_49 nw nx g) rfl rfl ?_
              refine sw_iload (dX9_group_1.at 44 rfl) rfl ?_
              refine sw_iconst (dX9_group_1.at 45 rfl) ?_
              refine sw_zastN 2 (dX9_group_1.at 46 rfl) (S_lt 77 (by decide)) (S_77 nw nx g) (by decide) (by decide) (by decide) ?_
              refine sw_iinc (lo' := [some (vr (49)), some (vi (((vr_ : Nat) : Int))), some (vi (((vl_ : Nat) : Int))), some (vi (((gN P : Nat) : Int))), some (vi (3))]) (dX9_group_1.at 47 rfl) rfl (by decide) rfl ?_
              refine sw_goto (tgt := 161) (dX9_group_1.at 48 rfl) (by decide) ?_
              refine sw_iload (dX9_group_1.at 39 rfl) rfl ?_
              refine sw_iconst (dX9_group_1.at 40 rfl) ?_
              refine sw_icmp_ge (tgt := 181) (dX9_group_1.at 41 rfl) (by decide) (by decide) (by decide) (fun q => ?_) (fun q => ?_)
              · clear q
                refine sw_iload_n (dX9_group_1.at 49 rfl) rfl rfl ?_
                exact sw_iret (dX9_group_2.at 0 rfl) rfl (Nat.le_refl _) (Nat.le_refl _) hv
              · exact absurd q (by decide)
      · replace hv := hv.2.2 q
        exact hv

set_option maxHeartbeats 2000000 in
set_option maxRecDepth 20000 in
theorem g_X9_group_141_4 {G : GG} {j nw nx gn : Nat} {g : Nat → Sh} {c : Nat → Nat → Int} {post : Option AV → AM → Prop} {P : GD} {ln : Nat} {bo : Nat → Nat} {im : Nat → Nat} {bh : Nat → Nat} {ah : Nat → Nat} {lo : Nat → Nat} {fr : Nat → Nat} {la : Nat → Nat} {bk : Nat → Nat} {mo : Nat → Nat} {sp : Nat → Int} {mm : Nat} {nn : Nat} {tp : Nat} {hb : Bool} (hR : c 49 4 = ((gR P : Nat) : Int)) (hL : c 49 5 = ((ln : Nat) : Int)) (hBo : ∀ i, i < 25 → c 51 i = ((bo i : Nat) : Int)) (hSP : STP P ln) (hbg : ∀ s t, s < gR P → t < gR P → s ≠ t → bo (5 * s + t) = gB P s t)  (hv : (∀ (im_1 : Nat → Nat), ∀ (bh_1 : Nat → Nat), ∀ (ah_1 : Nat → Nat), ∀ (lo_1 : Nat → Nat), ∀ (fr_1 : Nat → Nat), ∀ (la_1 : Nat → Nat), ∀ (bk_1 : Nat → Nat), ∀ (mo_1 : Nat → Nat), ∀ (sp_1 : Nat → Int), (LT P bh_1 ah_1 lo_1 fr_1 la_1 bk_1 mo_1) → post (some (vi ((-4)))) (S nw nx g, 78 + gn, (lm c im_1 bh_1 ah_1 lo_1 fr_1 la_1 bk_1 mo_1 sp_1 (gM P) (gN P) (gN P - 1) false)))) :
    SW G (j + 7) mX9_group 141 [some (vr (49)), none, none, some (vi ((-4))), none] [] (S nw nx g, 78 + gn, (lm c im bh ah lo fr la bk mo sp mm nn tp hb)) B0 post := by
  refine sw_aload_n (dX9_group_1.at 26 rfl) rfl rfl ?_
  refine sw_callV (B' := B0) (As := []) (mc := 0) (ms := 0) (dX9_group_1.at 27 rfl) lk_X9_192 (S_lt 49 (by decide)) (S_49 nw nx g) rfl rfl (Nat.le_of_ble_eq_true rfl) rfl (Nat.le_refl _) (Nat.le_refl _) ?_
  refine c_X9_layStd (j := j + 1) hR hL hBo hSP hbg (fun im_1 bh_1 ah_1 lo_1 fr_1 la_1 bk_1 mo_1 sp_1 q2 => ?_) 
  · replace hv := hv im_1 bh_1 ah_1 lo_1 fr_1 la_1 bk_1 mo_1 sp_1 q2
    refine sw_pop (dX9_group_1.at 28 rfl) (fun _ h => by cases h) ?_
    refine sw_iload_n (dX9_group_1.at 29 rfl) rfl rfl ?_
    exact sw_iret (dX9_group_1.at 30 rfl) rfl (Nat.le_refl _) (Nat.le_refl _) hv

set_option maxHeartbeats 2000000 in
set_option maxRecDepth 20000 in
theorem g_X9_group_141_5 {G : GG} {j nw nx gn : Nat} {g : Nat → Sh} {c : Nat → Nat → Int} {post : Option AV → AM → Prop} {P : GD} {ln : Nat} {bo : Nat → Nat} {im : Nat → Nat} {bh : Nat → Nat} {ah : Nat → Nat} {lo : Nat → Nat} {fr : Nat → Nat} {la : Nat → Nat} {bk : Nat → Nat} {mo : Nat → Nat} {sp : Nat → Int} {mm : Nat} {nn : Nat} {tp : Nat} {hb : Bool} (hR : c 49 4 = ((gR P : Nat) : Int)) (hL : c 49 5 = ((ln : Nat) : Int)) (hBo : ∀ i, i < 25 → c 51 i = ((bo i : Nat) : Int)) (hSP : STP P ln) (hbg : ∀ s t, s < gR P → t < gR P → s ≠ t → bo (5 * s + t) = gB P s t)  (hv : (∀ (im_1 : Nat → Nat), ∀ (bh_1 : Nat → Nat), ∀ (ah_1 : Nat → Nat), ∀ (lo_1 : Nat → Nat), ∀ (fr_1 : Nat → Nat), ∀ (la_1 : Nat → Nat), ∀ (bk_1 : Nat → Nat), ∀ (mo_1 : Nat → Nat), ∀ (sp_1 : Nat → Int), (LT P bh_1 ah_1 lo_1 fr_1 la_1 bk_1 mo_1) → post (some (vi ((-5)))) (S nw nx g, 78 + gn, (lm c im_1 bh_1 ah_1 lo_1 fr_1 la_1 bk_1 mo_1 sp_1 (gM P) (gN P) (gN P - 1) false)))) :
    SW G (j + 7) mX9_group 141 [some (vr (49)), none, none, some (vi ((-5))), none] [] (S nw nx g, 78 + gn, (lm c im bh ah lo fr la bk mo sp mm nn tp hb)) B0 post := by
  refine sw_aload_n (dX9_group_1.at 26 rfl) rfl rfl ?_
  refine sw_callV (B' := B0) (As := []) (mc := 0) (ms := 0) (dX9_group_1.at 27 rfl) lk_X9_192 (S_lt 49 (by decide)) (S_49 nw nx g) rfl rfl (Nat.le_of_ble_eq_true rfl) rfl (Nat.le_refl _) (Nat.le_refl _) ?_
  refine c_X9_layStd (j := j + 1) hR hL hBo hSP hbg (fun im_1 bh_1 ah_1 lo_1 fr_1 la_1 bk_1 mo_1 sp_1 q2 => ?_) 
  · replace hv := hv im_1 bh_1 ah_1 lo_1 fr_1 la_1 bk_1 mo_1 sp_1 q2
    refine sw_pop (dX9_group_1.at 28 rfl) (fun _ h => by cases h) ?_
    refine sw_iload_n (dX9_group_1.at 29 rfl) rfl rfl ?_
    exact sw_iret (dX9_group_1.at 30 rfl) rfl (Nat.le_refl _) (Nat.le_refl _) hv

set_option maxHeartbeats 2000000 in
set_option maxRecDepth 20000 in
theorem g_X9_group_80B {G : GG} {j nw nx gn : Nat} {g : Nat → Sh} {c : Nat → Nat → Int} {post : Option AV → AM → Prop} {r : Nat} {ln : Nat} {bo : Nat → Nat} {im : Nat → Nat} {bh : Nat → Nat} {ah : Nat → Nat} {lo : Nat → Nat} {fr : Nat → Nat} {la : Nat → Nat} {bk : Nat → Nat} {mo : Nat → Nat} {sp : Nat → Int} {mm : Nat} {nn : Nat} {tp : Nat} {hb : Bool} {vr_ : Nat} {vl_ : Nat} (hR : c 49 4 = ((r : Nat) : Int)) (hL : c 49 5 = ((ln : Nat) : Int)) (hBo : ∀ i, i < 25 → c 51 i = ((bo i : Nat) : Int)) (hr : r ≤ 5) (hbo : ∀ s q, s < r → q < r → q ≠ s → 2 ≤ bo (5 * s + q) ∧ bo (5 * s + q) ≤ 12) (hBd : BAD r bo) (hl : 0 < ln) (hl2 : ln < 1000)  (hv : (∀ (im_1 : Nat → Nat), ∀ (bh_1 : Nat → Nat), ∀ (lo_1 : Nat → Nat), ∀ (fr_1 : Nat → Nat), ∀ (la_1 : Nat → Nat), ∀ (nn_1 : Nat), SW G (j + 7) mX9_group 101 [some (vr (49)), some (vi (((vr_ : Nat) : Int))), some (vi (((vl_ : Nat) : Int))), some (vi ((-5))), none] [] (S nw nx g, 78 + gn, (lm c im_1 bh_1 ah lo_1 fr_1 la_1 bk mo sp 0 nn_1 0 false)) B0 post)) :
    SW G (j + 7) mX9_group 80 [some (vr (49)), some (vi (((vr_ : Nat) : Int))), some (vi (((vl_ : Nat) : Int))), none, none] [] (S nw nx g, 78 + gn, (lm c im bh ah lo fr la bk mo sp mm nn tp hb)) B0 post := by
  refine sw_aload_n (dX9_group_0.at 45 rfl) rfl rfl ?_
  refine sw_callV (B' := B0) (As := []) (mc := 0) (ms := 0) (dX9_group_0.at 46 rfl) lk_X9_192 (S_lt 49 (by decide)) (S_49 nw nx g) rfl rfl (Nat.le_of_ble_eq_true rfl) rfl (Nat.le_refl _) (Nat.le_refl _) ?_
  refine c_X9_lays_bad (j := j + 1) hR hL hBo hr hbo hBd hl hl2 (fun im_1 bh_1 lo_1 fr_1 la_1 nn_1 => ?_) 
  · replace hv := hv im_1 bh_1 lo_1 fr_1 la_1 nn_1
    refine sw_if_eq (tgt := 94) (dX9_group_0.at 47 rfl) (by decide) (by decide) (fun q => ?_) (fun q => ?_)
    · clear q
      refine sw_bipush (dX9_group_1.at 1 rfl) (by decide) ?_
      refine sw_istore_n (lo' := [some (vr (49)), some (vi (((vr_ : Nat) : Int))), some (vi (((vl_ : Nat) : Int))), some (vi ((-5))), none]) (dX9_group_1.at 2 rfl) rfl (by decide) rfl ?_
      refine sw_iload_n (dX9_group_1.at 3 rfl) rfl rfl ?_
      refine sw_if_ge (tgt := 148) (dX9_group_1.at 4 rfl) (by decide) (by decide) (fun q => ?_) (fun q => ?_)
      · exact absurd q (by decide)
      · clear q
        exact hv
    · exact absurd q (by decide)

/-- the reference's cells that group leaves -/
def FIN (c c2 : Nat → Nat → Int) : Prop := (∀ a, a ≠ 49 → (a < 51 ∨ 61 < a) → c2 a = c a) ∧ (∀ k, k = 0 ∨ k = 6 ∨ k = 7 ∨ (12 < k ∧ k < 21) ∨ 24 < k → c2 49 k = c 49 k) ∧ c2 49 1 = 0
def LAYd (c : Nat → Nat → Int) (P : GD) : Prop := ∃ (im bh ah lo fr la bk mo : Nat → Nat) (sp : Nat → Int), LMc c im bh ah lo fr la bk mo sp (gM P) (gN P) (gN P - 1) false ∧ LT P bh ah lo fr la bk mo
def RMx (c : Nat → Nat → Int) (fk : Nat) (fp : Int) (rk ln : Nat) (bo : Nat → Nat) : Prop := ∃ (bw : Nat → Nat) (ra rb rt rv : Nat) (rz : Bool), RMc c bw ra rb rt rv rz fk fp rk ln bo
def MG9 (c : Nat → Nat → Int) : Nat → Nat → Int := up2 (up2 (up2 (up2 (up2 c 49 39 0) 49 38 0) 77 0 0) 77 1 0) 77 2 0
theorem ML_of {c : Nat → Nat → Int} {fk : Nat} {fp : Int} {ln : Nat} {bo : Nat → Nat} {P : GD} (h1 : RMx c fk fp (gR P) ln bo) (h2 : LAYd c P) (hS : STP P ln) (hb : ∀ s t, s < gR P → t < gR P → bo (5 * s + t) = gBd P s t) : ML c P := by
  obtain ⟨bw, ra, rb, rt, rv, rz, r1, r2, r3⟩ := h1
  obtain ⟨im, bh, ah, lo, fr, la, bk, mo, sp, ⟨⟨l1, l2, l3, l4⟩, l5⟩, t1, t2, t3⟩ := h2
  have hR := STP_R hS
  refine ⟨⟨r1.2.2.2.2.2.2.2.1, l2, l1, l3, ?_, ?_, ?_⟩, fun s t a b => ?_, fun x hx => ?_, fun x s hx hs => ?_, fun i hi => ?_⟩
  · rw [r1.2.2.2.2.2.2.2.2]; omega
  · rw [r1.2.2.2.2.2.2.2.2]; have := STP_ln hS; omega
  · rw [r1.2.2.2.2.2.2.2.2]
    rcases hS with ⟨h, rfl⟩ | ⟨h, _, T, hG⟩
    · subst h; exact ⟨fun q => absurd q (by omega), fun q => absurd q (by simp [gN, P0])⟩
    · have : 0 < gN P := hG.1.1.2.2.2.2.2.2.2.2.2
      exact ⟨fun _ => this, fun _ => by omega⟩
  · rw [r2 _ (by omega), hb s t a b]
  · obtain ⟨a1, a2, a3⟩ := t1 x hx
    obtain ⟨b1, b2, b3, b4, b5, b6, b7, b8, b9⟩ := l5 x
    exact ⟨by rw [b4, a1], by rw [b7, a2], fun h0 => ⟨by rw [b5, (a3 h0).1], by rw [b6, (a3 h0).2]⟩⟩
  · obtain ⟨a1, a2⟩ := t2 x s hx hs
    obtain ⟨b1, b2, b3, b4, b5, b6, b7, b8, b9⟩ := l5 (5 * x + s)
    exact ⟨by rw [b2, a1], by rw [b3, a2]⟩
  · obtain ⟨b1, b2, b3, b4, b5, b6, b7, b8, b9⟩ := l5 i
    rw [b8, t3 i hi]
set_option maxHeartbeats 16000000 in
theorem c_X9_group {G : GG} {j nw nx gn : Nat} {g : Nat → Sh} {c : Nat → Nat → Int} {post : Option AV → AM → Prop} {nb : Nat → Nat} {n : Nat} {bw : Nat → Nat} {ra : Nat} {rb : Nat} {rt : Nat} {rv : Nat} {rz : Bool} {fk : Nat} {fp : Int} {rk : Nat} {ln : Nat} {bo : Nat → Nat} {im : Nat → Nat} {bh : Nat → Nat} {ah : Nat → Nat} {lo : Nat → Nat} {fr : Nat → Nat} {la : Nat → Nat} {bk : Nat → Nat} {mo : Nat → Nat} {sp : Nat → Int} {mm : Nat} {nn : Nat} {tp : Nat} {hb : Bool} {P : GD} (hS : c 49 1 = ((n : Nat) : Int)) (hn : n ≤ 300) (hB : ∀ i, nb i < 256) (hT : ∀ i, i < 300 → c 50 i = ((nb i : Nat) : Int)) (hRM : RMc c bw ra rb rt rv rz fk fp rk ln bo) (hLM : LMc c im bh ah lo fr la bk mo sp mm nn tp hb) (hcl : HCls) (hbo : ∀ i, i < 25 → bo i < 100) (hgR : gR P = rk) (hSP : STP P ln) (hbg : ∀ s t, s < gR P → t < gR P → s ≠ t → bo (5 * s + t) = gB P s t) 
    (KF : (glP nb n 300 0 0 0 (fun _ => 0)).1 ≠ 0 → ∀ c2 : Nat → Nat → Int, FIN c c2 → RMx c2 (glP nb n 300 0 0 0 (fun _ => 0)).1 (glP nb n 300 0 0 0 (fun _ => 0)).2.1 rk ln bo → LAYd c2 P → post (some (vi (-4))) (S nw nx g, 78 + gn, c2))
    (KB : (glP nb n 300 0 0 0 (fun _ => 0)).1 = 0 → 0 < (glP nb n 300 0 0 0 (fun _ => 0)).2.2.1 → ¬ CLSg (glP nb n 300 0 0 0 (fun _ => 0)).2.2.1 (rbd (glP nb n 300 0 0 0 (fun _ => 0)).2.2.2.2) → BAD (glP nb n 300 0 0 0 (fun _ => 0)).2.2.1 (rbd (glP nb n 300 0 0 0 (fun _ => 0)).2.2.2.2) → ∀ c2 : Nat → Nat → Int, FIN c c2 → RMx c2 0 (-1) rk ln bo → LAYd c2 P → post (some (vi (-5))) (S nw nx g, 78 + gn, c2))
    (KG : (glP nb n 300 0 0 0 (fun _ => 0)).1 = 0 → ∀ P2 : GD, (((glP nb n 300 0 0 0 (fun _ => 0)).2.2.1 = 0 ∧ P2 = P0) ∨ (0 < (glP nb n 300 0 0 0 (fun _ => 0)).2.2.1 ∧ CLSg (glP nb n 300 0 0 0 (fun _ => 0)).2.2.1 (rbd (glP nb n 300 0 0 0 (fun _ => 0)).2.2.2.2) ∧ P2 = PickP (glP nb n 300 0 0 0 (fun _ => 0)).2.2.1 (rbd (glP nb n 300 0 0 0 (fun _ => 0)).2.2.2.2))) → STP P2 (glP nb n 300 0 0 0 (fun _ => 0)).2.2.2.1 → gR P2 = (glP nb n 300 0 0 0 (fun _ => 0)).2.2.1 → (∀ s t, s < gR P2 → t < gR P2 → s ≠ t → rbd (glP nb n 300 0 0 0 (fun _ => 0)).2.2.2.2 (5 * s + t) = gB P2 s t) → ∀ c2 : Nat → Nat → Int, FIN c c2 → RMx c2 0 (-1) (glP nb n 300 0 0 0 (fun _ => 0)).2.2.1 (glP nb n 300 0 0 0 (fun _ => 0)).2.2.2.1 (rbd (glP nb n 300 0 0 0 (fun _ => 0)).2.2.2.2) → LAYd c2 P2 → post (some (vi ((gN P2 : Nat) : Int))) (S nw nx g, 78 + gn, (MG9 c2))) : SM G (j + 8) mX9_group [vr 49] (S nw nx g, 78 + gn, c) 0 0 post := by
  refine sm_of wX9_group rfl (Nat.le_of_ble_eq_true rfl) ?_
  have hok := glP_ok (nb := nb) (n := n) 300 0 0 0 (fun _ => 0) (Nat.zero_le _) (by decide) (by decide) BDok_0
  have hrk5 := STP_R hSP
  have hln5 := STP_ln hSP
  refine SW.cg (congrArg (fun m => (S nw nx g, 78 + gn, m)) (rm_of hRM)) ?_
  refine g_X9_group_0 hS hn hB hT ?_
  refine lp_X9_group_12 hS hn hB hT hbo ?_ 25 0 bw bo rfl (fun i hi => ⟨fun q => absurd q (by omega), fun _ => rfl⟩)
  refine g_X9_group_54 (bw := bo) hS hn hB hT ?_
  have hLMU : ∀ (ra rb rt rv rk ln fk : Nat) (rz : Bool) (fp : Int) (b2 : Nat → Nat), LMc (up2 (rm (w52 c bo) ra rb rt rv rz fk fp rk ln b2) 49 1 0) im bh ah lo fr la bk mo sp mm nn tp hb := by
    intro ra rb rt rv rk ln fk rz fp b2
    exact hLM
  have back4 : ∀ (c9 : Nat → Nat → Int) (ra rb rt rv rk9 ln9 fk9 : Nat) (rz : Bool) (fp9 : Int) (b9 : Nat → Nat), FIN c c9 → RMc c9 bo ra rb rt rv rz fk9 fp9 rk9 ln9 b9 → (∃ (im : Nat → Nat) (bh : Nat → Nat) (ah : Nat → Nat) (lo : Nat → Nat) (fr : Nat → Nat) (la : Nat → Nat) (bk : Nat → Nat) (mo : Nat → Nat) (sp : Nat → Int) (mm : Nat) (nn : Nat) (tp : Nat) (hb : Bool), LMc c9 im bh ah lo fr la bk mo sp mm nn tp hb) → (∀ c2 : Nat → Nat → Int, FIN c c2 → RMx c2 fk9 fp9 rk ln bo → LAYd c2 P → post (some (vi (-4))) (S nw nx g, 78 + gn, c2)) → SW G (j + 7) mX9_group 101 [some (vr (49)), some (vi (((rk : Nat) : Int))), some (vi (((ln : Nat) : Int))), some (vi ((-4))), none] [] (S nw nx g, 78 + gn, c9) B0 post := by
    intro c9 ra rb rt rv rk9 ln9 fk9 rz fp9 b9 hF hR9 hL9 K
    have hS9 : c9 49 1 = ((0 : Nat) : Int) := hF.2.2
    have hT9 : ∀ i, i < 300 → c9 50 i = ((nb i : Nat) : Int) := fun i hi => by rw [hF.1 50 (by decide) (by decide)]; exact hT i hi
    refine SW.cg (congrArg (fun m => (S nw nx g, 78 + gn, m)) (rm_of hR9)) ?_
    refine g_X9_group_101_4 (n := 0) hS9 (by omega) hB hT9 ?_
    refine lp_X9_group_114_4 (n := 0) hS9 (by omega) hB hT9 hbo ?_ 25 0 b9 rfl (fun i hi => absurd hi (by omega))
    obtain ⟨Lim, Lbh, Lah, Llo, Lfr, Lla, Lbk, Lmo, Lsp, Lmm, Lnn, Ltp, Lhb, hL9⟩ := hL9
    have hL10 : LMc (rm (w52 c9 bo) ra rb rt rv rz fk9 fp9 rk ln bo) Lim Lbh Lah Llo Lfr Lla Lbk Lmo Lsp Lmm Lnn Ltp Lhb := hL9
    refine SW.cg (congrArg (fun m => (S nw nx g, 78 + gn, m)) (lm_of hL10)) ?_
    refine g_X9_group_141_4 (P := P) (ln := ln) (bo := bo) (by rw [hgR]; rfl) rfl (fun i hi => rm_r51 (w52 c9 bo) ra rb rt rv rz fk9 fp9 rk ln bo hi) hSP hbg ?_
    refine fun im_1 => fun bh_1 => fun ah_1 => fun lo_1 => fun fr_1 => fun la_1 => fun bk_1 => fun mo_1 => fun sp_1 => fun q => ?_
    refine K _ ⟨fun a h1 h2 => ?_, fun k hk => ?_, hS9⟩ ⟨bo, ra, rb, rt, rv, rz, ⟨rfl, rfl, rfl, rfl, rfl, rfl, rfl, rfl, rfl⟩, fun i hi => rm_r51 (w52 c9 bo) ra rb rt rv rz fk9 fp9 rk ln bo hi, fun i hi => rm_r52 c9 bo ra rb rt rv rz fk9 fp9 rk ln bo hi⟩ ⟨_, _, _, _, _, _, _, _, _, LMc_lm, q⟩
    · rw [← hF.1 a h1 h2]
      funext i
      have g1 : a ≠ 51 := by omega
      have g2 : a ≠ 52 := by omega
      have g3 : a ≠ 53 ∧ a ≠ 54 ∧ a ≠ 55 ∧ a ≠ 56 ∧ a ≠ 57 ∧ a ≠ 58 ∧ a ≠ 59 ∧ a ≠ 60 ∧ a ≠ 61 := by omega
      simp [lm, rm, w52, h1, g1, g2, g3]
    · rw [← hF.2.1 k hk]
      have g3 : k ≠ 2 ∧ k ≠ 3 ∧ k ≠ 4 ∧ k ≠ 5 ∧ k ≠ 8 ∧ k ≠ 9 ∧ k ≠ 10 ∧ k ≠ 11 ∧ k ≠ 12 ∧ k ≠ 21 ∧ k ≠ 22 ∧ k ≠ 23 ∧ k ≠ 24 := by omega
      simp [lm, rm, w52, g3]
  have back5 : ∀ (c9 : Nat → Nat → Int) (ra rb rt rv rk9 ln9 fk9 : Nat) (rz : Bool) (fp9 : Int) (b9 : Nat → Nat), FIN c c9 → RMc c9 bo ra rb rt rv rz fk9 fp9 rk9 ln9 b9 → (∃ (im : Nat → Nat) (bh : Nat → Nat) (ah : Nat → Nat) (lo : Nat → Nat) (fr : Nat → Nat) (la : Nat → Nat) (bk : Nat → Nat) (mo : Nat → Nat) (sp : Nat → Int) (mm : Nat) (nn : Nat) (tp : Nat) (hb : Bool), LMc c9 im bh ah lo fr la bk mo sp mm nn tp hb) → (∀ c2 : Nat → Nat → Int, FIN c c2 → RMx c2 fk9 fp9 rk ln bo → LAYd c2 P → post (some (vi (-5))) (S nw nx g, 78 + gn, c2)) → SW G (j + 7) mX9_group 101 [some (vr (49)), some (vi (((rk : Nat) : Int))), some (vi (((ln : Nat) : Int))), some (vi ((-5))), none] [] (S nw nx g, 78 + gn, c9) B0 post := by
    intro c9 ra rb rt rv rk9 ln9 fk9 rz fp9 b9 hF hR9 hL9 K
    have hS9 : c9 49 1 = ((0 : Nat) : Int) := hF.2.2
    have hT9 : ∀ i, i < 300 → c9 50 i = ((nb i : Nat) : Int) := fun i hi => by rw [hF.1 50 (by decide) (by decide)]; exact hT i hi
    refine SW.cg (congrArg (fun m => (S nw nx g, 78 + gn, m)) (rm_of hR9)) ?_
    refine g_X9_group_101_5 (n := 0) hS9 (by omega) hB hT9 ?_
    refine lp_X9_group_114_5 (n := 0) hS9 (by omega) hB hT9 hbo ?_ 25 0 b9 rfl (fun i hi => absurd hi (by omega))
    obtain ⟨Lim, Lbh, Lah, Llo, Lfr, Lla, Lbk, Lmo, Lsp, Lmm, Lnn, Ltp, Lhb, hL9⟩ := hL9
    have hL10 : LMc (rm (w52 c9 bo) ra rb rt rv rz fk9 fp9 rk ln bo) Lim Lbh Lah Llo Lfr Lla Lbk Lmo Lsp Lmm Lnn Ltp Lhb := hL9
    refine SW.cg (congrArg (fun m => (S nw nx g, 78 + gn, m)) (lm_of hL10)) ?_
    refine g_X9_group_141_5 (P := P) (ln := ln) (bo := bo) (by rw [hgR]; rfl) rfl (fun i hi => rm_r51 (w52 c9 bo) ra rb rt rv rz fk9 fp9 rk ln bo hi) hSP hbg ?_
    refine fun im_1 => fun bh_1 => fun ah_1 => fun lo_1 => fun fr_1 => fun la_1 => fun bk_1 => fun mo_1 => fun sp_1 => fun q => ?_
    refine K _ ⟨fun a h1 h2 => ?_, fun k hk => ?_, hS9⟩ ⟨bo, ra, rb, rt, rv, rz, ⟨rfl, rfl, rfl, rfl, rfl, rfl, rfl, rfl, rfl⟩, fun i hi => rm_r51 (w52 c9 bo) ra rb rt rv rz fk9 fp9 rk ln bo hi, fun i hi => rm_r52 c9 bo ra rb rt rv rz fk9 fp9 rk ln bo hi⟩ ⟨_, _, _, _, _, _, _, _, _, LMc_lm, q⟩
    · rw [← hF.1 a h1 h2]
      funext i
      have g1 : a ≠ 51 := by omega
      have g2 : a ≠ 52 := by omega
      have g3 : a ≠ 53 ∧ a ≠ 54 ∧ a ≠ 55 ∧ a ≠ 56 ∧ a ≠ 57 ∧ a ≠ 58 ∧ a ≠ 59 ∧ a ≠ 60 ∧ a ≠ 61 := by omega
      simp [lm, rm, w52, h1, g1, g2, g3]
    · rw [← hF.2.1 k hk]
      have g3 : k ≠ 2 ∧ k ≠ 3 ∧ k ≠ 4 ∧ k ≠ 5 ∧ k ≠ 8 ∧ k ≠ 9 ∧ k ≠ 10 ∧ k ≠ 11 ∧ k ≠ 12 ∧ k ≠ 21 ∧ k ≠ 22 ∧ k ≠ 23 ∧ k ≠ 24 := by omega
      simp [lm, rm, w52, g3]
  have finU : ∀ (ra rb rt rv rk ln fk : Nat) (rz : Bool) (fp : Int) (b2 : Nat → Nat), FIN c (up2 (rm (w52 c bo) ra rb rt rv rz fk fp rk ln b2) 49 1 0) := by
    intro ra rb rt rv rk ln fk rz fp b2
    refine ⟨fun a h1 h2 => ?_, fun k hk => ?_, rfl⟩
    · funext i
      have g1 : a ≠ 51 := by omega
      have g2 : a ≠ 52 := by omega
      simp [up2, rm, w52, h1, g1, g2]
    · have g3 : k ≠ 1 ∧ k ≠ 2 ∧ k ≠ 3 ∧ k ≠ 4 ∧ k ≠ 5 ∧ k ≠ 8 ∧ k ≠ 9 ∧ k ≠ 10 ∧ k ≠ 11 ∧ k ≠ 12 := by omega
      simp [up2, rm, w52, g3]
  have finL : ∀ (c1 : Nat → Nat → Int) (im : Nat → Nat) (bh : Nat → Nat) (ah : Nat → Nat) (lo : Nat → Nat) (fr : Nat → Nat) (la : Nat → Nat) (bk : Nat → Nat) (mo : Nat → Nat) (sp : Nat → Int) (mm : Nat) (nn : Nat) (tp : Nat) (hb : Bool), FIN c c1 → FIN c (lm c1 im bh ah lo fr la bk mo sp mm nn tp hb) := by
    intro c1 im bh ah lo fr la bk mo sp mm nn tp hb h
    refine ⟨fun a h1 h2 => ?_, fun k hk => ?_, h.2.2⟩
    · rw [← h.1 a h1 h2]
      funext i
      have g3 : a ≠ 53 ∧ a ≠ 54 ∧ a ≠ 55 ∧ a ≠ 56 ∧ a ≠ 57 ∧ a ≠ 58 ∧ a ≠ 59 ∧ a ≠ 60 ∧ a ≠ 61 := by omega
      simp [lm, h1, g3]
    · rw [← h.2.1 k hk]
      have g3 : k ≠ 21 ∧ k ≠ 22 ∧ k ≠ 23 ∧ k ≠ 24 := by omega
      simp [lm, g3]
  refine fun ra_1 => fun rb_1 => fun rt_1 => fun rv_1 => fun rk_1 => fun ln_1 => fun fk_1 => fun rz_1 => fun fp_1 => fun bd_1 => fun q => ⟨fun q => ?_, fun q => ?_⟩
  · rename_i hq
    obtain ⟨⟨a1, a2, a3⟩, a4⟩ := hq
    have hz : fk_1 = 0 := Decidable.byContradiction fun h => by rw [a4.mpr h] at q; exact absurd q (by decide)
    have z : (glP nb n 300 0 0 0 (fun _ => 0)).1 = 0 := a1.symm.trans hz
    obtain ⟨b1, b2, b3⟩ := a3 z
    obtain ⟨o1, o2, o3, o4, o5⟩ := hok.2 z
    rw [hz, a2.trans o1, b1, b2, b3]
    have hU51 : ∀ i, i < 25 → (up2 (rm (w52 c bo) ra_1 rb_1 rt_1 rv_1 rz_1 0 (-1) (glP nb n 300 0 0 0 (fun _ => 0)).2.2.1 (glP nb n 300 0 0 0 (fun _ => 0)).2.2.2.1 (rbd (glP nb n 300 0 0 0 (fun _ => 0)).2.2.2.2)) 49 1 0) 51 i = ((rbd (glP nb n 300 0 0 0 (fun _ => 0)).2.2.2.2 i : Nat) : Int) := fun i hi => rm_r51 (w52 c bo) ra_1 rb_1 rt_1 rv_1 rz_1 0 (-1) (glP nb n 300 0 0 0 (fun _ => 0)).2.2.1 (glP nb n 300 0 0 0 (fun _ => 0)).2.2.2.1 (rbd (glP nb n 300 0 0 0 (fun _ => 0)).2.2.2.2) hi
    have hU52 : ∀ i, i < 25 → (up2 (rm (w52 c bo) ra_1 rb_1 rt_1 rv_1 rz_1 0 (-1) (glP nb n 300 0 0 0 (fun _ => 0)).2.2.1 (glP nb n 300 0 0 0 (fun _ => 0)).2.2.2.1 (rbd (glP nb n 300 0 0 0 (fun _ => 0)).2.2.2.2)) 49 1 0) 52 i = ((bo i : Nat) : Int) := fun i hi => rm_r52 c bo ra_1 rb_1 rt_1 rv_1 rz_1 0 (-1) (glP nb n 300 0 0 0 (fun _ => 0)).2.2.1 (glP nb n 300 0 0 0 (fun _ => 0)).2.2.2.1 (rbd (glP nb n 300 0 0 0 (fun _ => 0)).2.2.2.2) hi
    have hRMU : ∀ (im : Nat → Nat) (bh : Nat → Nat) (ah : Nat → Nat) (lo : Nat → Nat) (fr : Nat → Nat) (la : Nat → Nat) (bk : Nat → Nat) (mo : Nat → Nat) (sp : Nat → Int) (mm : Nat) (nn : Nat) (tp : Nat) (hb : Bool), RMc (lm (up2 (rm (w52 c bo) ra_1 rb_1 rt_1 rv_1 rz_1 0 (-1) (glP nb n 300 0 0 0 (fun _ => 0)).2.2.1 (glP nb n 300 0 0 0 (fun _ => 0)).2.2.2.1 (rbd (glP nb n 300 0 0 0 (fun _ => 0)).2.2.2.2)) 49 1 0) im bh ah lo fr la bk mo sp mm nn tp hb) bo ra_1 rb_1 rt_1 rv_1 rz_1 0 (-1) (glP nb n 300 0 0 0 (fun _ => 0)).2.2.1 (glP nb n 300 0 0 0 (fun _ => 0)).2.2.2.1 (rbd (glP nb n 300 0 0 0 (fun _ => 0)).2.2.2.2) := by
      intros
      exact ⟨⟨rfl, rfl, rfl, rfl, rfl, rfl, rfl, rfl, rfl⟩, hU51, hU52⟩
    refine SW.cg (congrArg (fun m => (S nw nx g, 78 + gn, m)) (lm_of (hLMU ra_1 rb_1 rt_1 rv_1 (glP nb n 300 0 0 0 (fun _ => 0)).2.2.1 (glP nb n 300 0 0 0 (fun _ => 0)).2.2.2.1 0 rz_1 (-1) (rbd (glP nb n 300 0 0 0 (fun _ => 0)).2.2.2.2)))) ?_
    have good : ∀ P2 : GD, (((glP nb n 300 0 0 0 (fun _ => 0)).2.2.1 = 0 ∧ P2 = P0) ∨ (0 < (glP nb n 300 0 0 0 (fun _ => 0)).2.2.1 ∧ CLSg (glP nb n 300 0 0 0 (fun _ => 0)).2.2.1 (rbd (glP nb n 300 0 0 0 (fun _ => 0)).2.2.2.2) ∧ P2 = PickP (glP nb n 300 0 0 0 (fun _ => 0)).2.2.1 (rbd (glP nb n 300 0 0 0 (fun _ => 0)).2.2.2.2))) → STP P2 (glP nb n 300 0 0 0 (fun _ => 0)).2.2.2.1 → gR P2 = (glP nb n 300 0 0 0 (fun _ => 0)).2.2.1 → (∀ s t, s < gR P2 → t < gR P2 → s ≠ t → rbd (glP nb n 300 0 0 0 (fun _ => 0)).2.2.2.2 (5 * s + t) = gB P2 s t) → SW G (j + 7) mX9_group 80 [some (vr (49)), some (vi (((rk : Nat) : Int))), some (vi (((ln : Nat) : Int))), none, none] [] (S nw nx g, 78 + gn, (lm (up2 (rm (w52 c bo) ra_1 rb_1 rt_1 rv_1 rz_1 0 (-1) (glP nb n 300 0 0 0 (fun _ => 0)).2.2.1 (glP nb n 300 0 0 0 (fun _ => 0)).2.2.2.1 (rbd (glP nb n 300 0 0 0 (fun _ => 0)).2.2.2.2)) 49 1 0) im bh ah lo fr la bk mo sp mm nn tp hb)) B0 post := by
      intro P2 hw h1 h2 h3
      have hN60 : gN P2 ≤ 60 := by
        rcases h1 with ⟨_, rfl⟩ | ⟨_, _, T, hG⟩
        · show 0 ≤ 60; decide
        · exact GV_N hG.1.1.1
      refine g_X9_group_80P (P := P2) (ln := (glP nb n 300 0 0 0 (fun _ => 0)).2.2.2.1) (bo := rbd (glP nb n 300 0 0 0 (fun _ => 0)).2.2.2.2) (by rw [h2]; rfl) rfl hU51 h1 h3 ?_
      refine fun im_1 => fun bh_1 => fun ah_1 => fun lo_1 => fun fr_1 => fun la_1 => fun bk_1 => fun mo_1 => fun sp_1 => fun q => ⟨?_, ⟨fun q => ?_, fun q => ?_⟩⟩
      · omega
      · rename_i hq2
        exact KG z P2 hw h1 h2 h3 _ (finL _ _ _ _ _ _ _ _ _ _ _ _ _ _ (finU _ _ _ _ _ _ _ _ _ _)) ⟨bo, ra_1, rb_1, rt_1, rv_1, rz_1, hRMU _ _ _ _ _ _ _ _ _ _ _ _ _⟩ ⟨_, _, _, _, _, _, _, _, _, LMc_lm, hq2⟩
      · exfalso; omega
    by_cases r0 : (glP nb n 300 0 0 0 (fun _ => 0)).2.2.1 = 0
    · have l0 : (glP nb n 300 0 0 0 (fun _ => 0)).2.2.2.1 = 0 := by
        rcases Nat.eq_zero_or_pos (glP nb n 300 0 0 0 (fun _ => 0)).2.2.2.1 with h | h
        · exact h
        · have := o3.mp h; omega
      exact good P0 (Or.inl ⟨r0, rfl⟩) (Or.inl ⟨l0, rfl⟩) r0.symm (fun s t h => absurd h (by simp [gR, P0]))
    · have rp : 0 < (glP nb n 300 0 0 0 (fun _ => 0)).2.2.1 := by omega
      have lp : 0 < (glP nb n 300 0 0 0 (fun _ => 0)).2.2.2.1 := o3.mpr rp
      by_cases hcg : CLSg (glP nb n 300 0 0 0 (fun _ => 0)).2.2.1 (rbd (glP nb n 300 0 0 0 (fun _ => 0)).2.2.2.2)
      · obtain ⟨T, hG, hgR2, hgB⟩ := pick_ok hcg
        generalize hPe : PickP (glP nb n 300 0 0 0 (fun _ => 0)).2.2.1 (rbd (glP nb n 300 0 0 0 (fun _ => 0)).2.2.2.2) = P2 at hG hgR2 hgB
        exact good P2 (Or.inr ⟨rp, hcg, hPe.symm⟩) (Or.inr ⟨lp, by omega, T, hG⟩) hgR2 (fun s t h1 h2 h3 => (hgB s t (hgR2 ▸ h1) (hgR2 ▸ h2) h3).symm)
      · have hbad : BAD (glP nb n 300 0 0 0 (fun _ => 0)).2.2.1 (rbd (glP nb n 300 0 0 0 (fun _ => 0)).2.2.2.2) := (hcl (glP nb n 300 0 0 0 (fun _ => 0)).2.2.1 (glP nb n 300 0 0 0 (fun _ => 0)).2.2.2.2 rp o2 o4).resolve_left hcg
        have hbb : ∀ s q, s < (glP nb n 300 0 0 0 (fun _ => 0)).2.2.1 → q < (glP nb n 300 0 0 0 (fun _ => 0)).2.2.1 → q ≠ s → 2 ≤ rbd (glP nb n 300 0 0 0 (fun _ => 0)).2.2.2.2 (5 * s + q) ∧ rbd (glP nb n 300 0 0 0 (fun _ => 0)).2.2.2.2 (5 * s + q) ≤ 12 := by
          intro s t x y w
          rw [rbd_at (by omega) (by omega) w]
          have := o4.1 (s * 5 + t) (by omega)
          split <;> omega
        refine g_X9_group_80B (r := (glP nb n 300 0 0 0 (fun _ => 0)).2.2.1) (ln := (glP nb n 300 0 0 0 (fun _ => 0)).2.2.2.1) (bo := rbd (glP nb n 300 0 0 0 (fun _ => 0)).2.2.2.2) rfl rfl hU51 o2 hbb hbad lp (by omega) ?_
        refine fun im_1 => fun bh_1 => fun lo_1 => fun fr_1 => fun la_1 => fun nn_1 => ?_
        exact back5 _ _ _ _ _ _ _ _ _ _ _ (finL _ _ _ _ _ _ _ _ _ _ _ _ _ _ (finU _ _ _ _ _ _ _ _ _ _)) (hRMU _ _ _ _ _ _ _ _ _ _ _ _ _) ⟨_, _, _, _, _, _, _, _, _, _, _, _, _, LMc_lm⟩ (KB z rp hcg hbad)
  · rename_i hq
    obtain ⟨⟨a1, a2, a3⟩, a4⟩ := hq
    have hz : (glP nb n 300 0 0 0 (fun _ => 0)).1 ≠ 0 := by rw [← a1]; exact a4.mp q
    rw [a1, a2]
    exact back4 _ _ _ _ _ _ _ _ _ _ _ (finU _ _ _ _ _ _ _ _ _ _) ⟨⟨rfl, rfl, rfl, rfl, rfl, rfl, rfl, rfl, rfl⟩, fun i hi => rm_r51 (w52 c bo) ra_1 rb_1 rt_1 rv_1 rz_1 (glP nb n 300 0 0 0 (fun _ => 0)).1 (glP nb n 300 0 0 0 (fun _ => 0)).2.1 rk_1 ln_1 (rbd bd_1) hi, fun i hi => rm_r52 c bo ra_1 rb_1 rt_1 rv_1 rz_1 (glP nb n 300 0 0 0 (fun _ => 0)).1 (glP nb n 300 0 0 0 (fun _ => 0)).2.1 rk_1 ln_1 (rbd bd_1) hi⟩ ⟨_, _, _, _, _, _, _, _, _, _, _, _, _, hLMU ra_1 rb_1 rt_1 rv_1 rk_1 ln_1 (glP nb n 300 0 0 0 (fun _ => 0)).1 rz_1 (glP nb n 300 0 0 0 (fun _ => 0)).2.1 (rbd bd_1)⟩ (KF hz)

