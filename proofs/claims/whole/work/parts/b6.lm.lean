/-- the reference's memory while it lays a group -/
def lm (c : Nat → Nat → Int) (im : Nat → Nat) (bh : Nat → Nat) (ah : Nat → Nat) (lo : Nat → Nat) (fr : Nat → Nat) (la : Nat → Nat) (bk : Nat → Nat) (mo : Nat → Nat) (sp : Nat → Int) (mm : Nat) (nn : Nat) (tp : Nat) (hb : Bool) : Nat → Nat → Int := fun a i =>
  if a = 49 then (if i = 21 then (mm : Int) else if i = 22 then (nn : Int) else if i = 23 then (tp : Int) else if i = 24 then bz hb else c 49 i)
  else if a = 53 then ((im i : Nat) : Int) else if a = 54 then ((bh i : Nat) : Int) else if a = 55 then ((ah i : Nat) : Int) else if a = 56 then ((lo i : Nat) : Int)
  else if a = 57 then ((fr i : Nat) : Int) else if a = 58 then ((la i : Nat) : Int) else if a = 59 then ((bk i : Nat) : Int) else if a = 60 then ((mo i : Nat) : Int) else if a = 61 then sp i else c a i
section LMs
variable {c : Nat → Nat → Int} {im : Nat → Nat} {bh : Nat → Nat} {ah : Nat → Nat} {lo : Nat → Nat} {fr : Nat → Nat} {la : Nat → Nat} {bk : Nat → Nat} {mo : Nat → Nat} {sp : Nat → Int} {mm : Nat} {nn : Nat} {tp : Nat} {hb : Bool} 
theorem lm_21 {z : Nat} : up2 (lm c im bh ah lo fr la bk mo sp mm nn tp hb) 49 21 ((z : Nat) : Int) = lm c im bh ah lo fr la bk mo sp z nn tp hb := by
  funext a i
  by_cases h1 : a = 49
  · subst h1
    by_cases h2 : i = 21
    · subst h2; rfl
    · simp [up2, lm, h2]
  · simp [up2, h1, lm]
theorem lm_22 {z : Nat} : up2 (lm c im bh ah lo fr la bk mo sp mm nn tp hb) 49 22 ((z : Nat) : Int) = lm c im bh ah lo fr la bk mo sp mm z tp hb := by
  funext a i
  by_cases h1 : a = 49
  · subst h1
    by_cases h2 : i = 22
    · subst h2; rfl
    · simp [up2, lm, h2]
  · simp [up2, h1, lm]
theorem lm_23 {z : Nat} : up2 (lm c im bh ah lo fr la bk mo sp mm nn tp hb) 49 23 ((z : Nat) : Int) = lm c im bh ah lo fr la bk mo sp mm nn z hb := by
  funext a i
  by_cases h1 : a = 49
  · subst h1
    by_cases h2 : i = 23
    · subst h2; rfl
    · simp [up2, lm, h2]
  · simp [up2, h1, lm]
theorem lm_24t : up2 (lm c im bh ah lo fr la bk mo sp mm nn tp hb) 49 24 1 = lm c im bh ah lo fr la bk mo sp mm nn tp true := by
  funext a i
  by_cases h1 : a = 49
  · subst h1
    by_cases h2 : i = 24
    · subst h2; rfl
    · simp [up2, lm, h2]
  · simp [up2, h1, lm]
theorem lm_24f : up2 (lm c im bh ah lo fr la bk mo sp mm nn tp hb) 49 24 0 = lm c im bh ah lo fr la bk mo sp mm nn tp false := by
  funext a i
  by_cases h1 : a = 49
  · subst h1
    by_cases h2 : i = 24
    · subst h2; rfl
    · simp [up2, lm, h2]
  · simp [up2, h1, lm]
theorem lm_a53 {k v : Nat} : up2 (lm c im bh ah lo fr la bk mo sp mm nn tp hb) 53 k ((v : Nat) : Int) = lm c (uN im k v) bh ah lo fr la bk mo sp mm nn tp hb := by
  funext a i
  by_cases h1 : a = 53
  · subst h1
    by_cases h2 : i = k
    · subst h2; simp [up2, lm, uN]
    · simp [up2, lm, h2, uN]
  · simp [up2, h1, lm]
theorem lm_a54 {k v : Nat} : up2 (lm c im bh ah lo fr la bk mo sp mm nn tp hb) 54 k ((v : Nat) : Int) = lm c im (uN bh k v) ah lo fr la bk mo sp mm nn tp hb := by
  funext a i
  by_cases h1 : a = 54
  · subst h1
    by_cases h2 : i = k
    · subst h2; simp [up2, lm, uN]
    · simp [up2, lm, h2, uN]
  · simp [up2, h1, lm]
theorem lm_a55 {k v : Nat} : up2 (lm c im bh ah lo fr la bk mo sp mm nn tp hb) 55 k ((v : Nat) : Int) = lm c im bh (uN ah k v) lo fr la bk mo sp mm nn tp hb := by
  funext a i
  by_cases h1 : a = 55
  · subst h1
    by_cases h2 : i = k
    · subst h2; simp [up2, lm, uN]
    · simp [up2, lm, h2, uN]
  · simp [up2, h1, lm]
theorem lm_a56 {k v : Nat} : up2 (lm c im bh ah lo fr la bk mo sp mm nn tp hb) 56 k ((v : Nat) : Int) = lm c im bh ah (uN lo k v) fr la bk mo sp mm nn tp hb := by
  funext a i
  by_cases h1 : a = 56
  · subst h1
    by_cases h2 : i = k
    · subst h2; simp [up2, lm, uN]
    · simp [up2, lm, h2, uN]
  · simp [up2, h1, lm]
theorem lm_a57 {k v : Nat} : up2 (lm c im bh ah lo fr la bk mo sp mm nn tp hb) 57 k ((v : Nat) : Int) = lm c im bh ah lo (uN fr k v) la bk mo sp mm nn tp hb := by
  funext a i
  by_cases h1 : a = 57
  · subst h1
    by_cases h2 : i = k
    · subst h2; simp [up2, lm, uN]
    · simp [up2, lm, h2, uN]
  · simp [up2, h1, lm]
theorem lm_a58 {k v : Nat} : up2 (lm c im bh ah lo fr la bk mo sp mm nn tp hb) 58 k ((v : Nat) : Int) = lm c im bh ah lo fr (uN la k v) bk mo sp mm nn tp hb := by
  funext a i
  by_cases h1 : a = 58
  · subst h1
    by_cases h2 : i = k
    · subst h2; simp [up2, lm, uN]
    · simp [up2, lm, h2, uN]
  · simp [up2, h1, lm]
theorem lm_a59 {k v : Nat} : up2 (lm c im bh ah lo fr la bk mo sp mm nn tp hb) 59 k ((v : Nat) : Int) = lm c im bh ah lo fr la (uN bk k v) mo sp mm nn tp hb := by
  funext a i
  by_cases h1 : a = 59
  · subst h1
    by_cases h2 : i = k
    · subst h2; simp [up2, lm, uN]
    · simp [up2, lm, h2, uN]
  · simp [up2, h1, lm]
theorem lm_a60 {k v : Nat} : up2 (lm c im bh ah lo fr la bk mo sp mm nn tp hb) 60 k ((v : Nat) : Int) = lm c im bh ah lo fr la bk (uN mo k v) sp mm nn tp hb := by
  funext a i
  by_cases h1 : a = 60
  · subst h1
    by_cases h2 : i = k
    · subst h2; simp [up2, lm, uN]
    · simp [up2, lm, h2, uN]
  · simp [up2, h1, lm]
theorem lm_a61 {k : Nat} {v : Int} : up2 (lm c im bh ah lo fr la bk mo sp mm nn tp hb) 61 k v = lm c im bh ah lo fr la bk mo (u1 sp k v) mm nn tp hb := by
  funext a i
  by_cases h1 : a = 61
  · subst h1
    by_cases h2 : i = k
    · subst h2; simp [up2, lm, u1]
    · simp [up2, lm, h2, u1]
  · simp [up2, h1, lm]
end LMs
def cmN (j : Nat) : Nat := ([0, 1, 10826, 13401, 21173, 26068, 23056, 49020, 38637, 727, 18315] : List Nat).getD j 0
theorem cmn_N : ∀ j, cmn j = ((cmN j : Nat) : Int) := by
  intro j
  match j with
  | 0 => rfl
  | 1 => rfl
  | 2 => rfl
  | 3 => rfl
  | 4 => rfl
  | 5 => rfl
  | 6 => rfl
  | 7 => rfl
  | 8 => rfl
  | 9 => rfl
  | 10 => rfl
  | j + 11 => rfl
theorem cmN_lt : ∀ j, cmN j < 55441 := by
  intro j
  match j with
  | 0 => decide
  | 1 => decide
  | 2 => decide
  | 3 => decide
  | 4 => decide
  | 5 => decide
  | 6 => decide
  | 7 => decide
  | 8 => decide
  | 9 => decide
  | 10 => decide
  | j + 11 => show (0 : Nat) < 55441; decide
/-- how a letter s moves place j -/
def wth (bo : Nat → Nat) (s j : Nat) : Nat := if j = s then 55439 else cmN (bo (5 * s + j) - 2)
theorem wth_lt (bo : Nat → Nat) (s j : Nat) : wth bo s j < 55441 := by
  unfold wth
  split
  · decide
  · exact cmN_lt _
def stp (bo im : Nat → Nat) (x s j i : Nat) : Nat := (im (25 * x + 5 * j + i) + wth bo s j * im (25 * x + 5 * s + i)) % 55441
/-- row im2 is im with one more element behind: x with s behind it, laid at d -/
def PUT (r : Nat) (bo im im2 : Nat → Nat) (x s d : Nat) : Prop := (∀ k, k < 25 * d → im2 k = im k) ∧ (∀ j i, j < r → i < r → im2 (25 * d + 5 * j + i) = stp bo im x s j i)

set_option maxHeartbeats 2000000 in
set_option maxRecDepth 20000 in
theorem g_X9_puts_0 {G : GG} {j nw nx gn : Nat} {g : Nat → Sh} {c : Nat → Nat → Int} {post : Option AV → AM → Prop} {x : Nat} {s : Nat} {d : Nat} {r : Nat} {ln : Nat} {bo : Nat → Nat} {im : Nat → Nat} {bh : Nat → Nat} {ah : Nat → Nat} {lo : Nat → Nat} {fr : Nat → Nat} {la : Nat → Nat} {bk : Nat → Nat} {mo : Nat → Nat} {sp : Nat → Int} {mm : Nat} {nn : Nat} {tp : Nat} {hb : Bool} (hR : c 49 4 = ((r : Nat) : Int)) (hL : c 49 5 = ((ln : Nat) : Int)) (hBo : ∀ i, i < 25 → c 51 i = ((bo i : Nat) : Int))  (hv : SW G (j + 0) mX9_puts 3 [some (vr (49)), some (vi (((x : Nat) : Int))), some (vi (((s : Nat) : Int))), some (vi (((d : Nat) : Int))), some (vi (0)), none, none, none, none] [] (S nw nx g, 78 + gn, (lm c im bh ah lo fr la bk mo sp mm nn tp hb)) B0 post) :
    SW G (j + 0) mX9_puts 0 [some (vr (49)), some (vi (((x : Nat) : Int))), some (vi (((s : Nat) : Int))), some (vi (((d : Nat) : Int))), none, none, none, none, none] [] (S nw nx g, 78 + gn, (lm c im bh ah lo fr la bk mo sp mm nn tp hb)) B0 post := by
  refine sw_iconst (dX9_puts_0.at 0 rfl) ?_
  refine sw_istore (lo' := [some (vr (49)), some (vi (((x : Nat) : Int))), some (vi (((s : Nat) : Int))), some (vi (((d : Nat) : Int))), some (vi (0)), none, none, none, none]) (dX9_puts_0.at 1 rfl) (by decide) rfl ?_
  exact hv

set_option maxHeartbeats 2000000 in
set_option maxRecDepth 20000 in
theorem g_X9_puts_3 {G : GG} {j nw nx gn : Nat} {g : Nat → Sh} {c : Nat → Nat → Int} {post : Option AV → AM → Prop} {x : Nat} {s : Nat} {d : Nat} {r : Nat} {ln : Nat} {bo : Nat → Nat} {im : Nat → Nat} {bh : Nat → Nat} {ah : Nat → Nat} {lo : Nat → Nat} {fr : Nat → Nat} {la : Nat → Nat} {bk : Nat → Nat} {mo : Nat → Nat} {sp : Nat → Int} {mm : Nat} {nn : Nat} {tp : Nat} {hb : Bool} {jj : Nat} (hR : c 49 4 = ((r : Nat) : Int)) (hL : c 49 5 = ((ln : Nat) : Int)) (hBo : ∀ i, i < 25 → c 51 i = ((bo i : Nat) : Int))  (hv : (jj < 2147483648) ∧ (r < 2147483648) ∧ (((r ≤ jj) → post none (S nw nx g, 78 + gn, (lm c im bh ah lo fr la bk mo sp mm nn tp hb))) ∧ ((¬ (r ≤ jj)) → (jj < 2147483648) ∧ (s < 2147483648) ∧ (((jj ≠ s) → ((5 * s) + jj < 25) ∧ ((2 ≤ bo ((5 * s) + jj)) ∧ ((0 ≤ (((bo ((5 * s) + jj)) - 2 : Nat) : Int)) ∧ ((((bo ((5 * s) + jj)) - 2 : Nat) : Int) < 11) ∧ (SW G (j + 0) mX9_puts 42 [some (vr (49)), some (vi (((x : Nat) : Int))), some (vi (((s : Nat) : Int))), some (vi (((d : Nat) : Int))), some (vi (((jj : Nat) : Int))), some (vi (cmn ((((bo ((5 * s) + jj)) - 2 : Nat) : Int).toNat))), none, none, none] [] (S nw nx g, 78 + gn, (lm c im bh ah lo fr la bk mo sp mm nn tp hb)) B0 post)))) ∧ ((jj = s) → SW G (j + 0) mX9_puts 42 [some (vr (49)), some (vi (((x : Nat) : Int))), some (vi (((s : Nat) : Int))), some (vi (((d : Nat) : Int))), some (vi (((jj : Nat) : Int))), some (vi (55439)), none, none, none] [] (S nw nx g, 78 + gn, (lm c im bh ah lo fr la bk mo sp mm nn tp hb)) B0 post))))) :
    SW G (j + 0) mX9_puts 3 [some (vr (49)), some (vi (((x : Nat) : Int))), some (vi (((s : Nat) : Int))), some (vi (((d : Nat) : Int))), some (vi (((jj : Nat) : Int))), none, none, none, none] [] (S nw nx g, 78 + gn, (lm c im bh ah lo fr la bk mo sp mm nn tp hb)) B0 post := by
  refine sw_iload (dX9_puts_0.at 2 rfl) rfl ?_
  refine sw_aload_n (dX9_puts_0.at 3 rfl) rfl rfl ?_
  refine sw_getIE (w := ((r : Nat) : Int)) (dX9_puts_0.at 4 rfl) fp_X9_159 (S_lt 49 (by decide)) (S_49 nw nx g) rfl hR ?_
  refine sw_icmpN_ge jj r (tgt := 132) (dX9_puts_0.at 5 rfl) (by decide) hv.1 hv.2.1 (fun q => ?_) (fun q => ?_)
  · replace hv := hv.2.2.1 q
    exact sw_vret (dX9_puts_1.at 31 rfl) rfl (Nat.le_refl _) (Nat.le_refl _) hv
  · replace hv := hv.2.2.2 q
    refine sw_iload (dX9_puts_0.at 6 rfl) rfl ?_
    refine sw_iload_n (dX9_puts_0.at 7 rfl) rfl rfl ?_
    refine sw_icmpN_ne jj s (tgt := 23) (dX9_puts_0.at 8 rfl) (by decide) hv.1 hv.2.1 (fun q => ?_) (fun q => ?_)
    · replace hv := hv.2.2.1 q
      refine sw_common (dX9_puts_0.at 11 rfl) fj_X9_207 ?_
      refine sw_aload_n (dX9_puts_0.at 12 rfl) rfl rfl ?_
      refine sw_getR (dX9_puts_0.at 13 rfl) fp_X9_17 (S_lt 49 (by decide)) (S_49 nw nx g) rfl rfl ?_
      refine sw_iconst (dX9_puts_0.at 14 rfl) ?_
      refine sw_iload_n (dX9_puts_0.at 15 rfl) rfl rfl ?_
      refine sw_imul (dX9_puts_0.at 16 rfl) ?_
      refine sw_topI (y := ((5 * s : Nat) : Int)) (by first | rfl | (congr 1)) ?_
      refine sw_iload (dX9_puts_0.at 17 rfl) rfl ?_
      refine sw_iadd (dX9_puts_0.at 18 rfl) ?_
      refine sw_topI (y := (((5 * s) + jj : Nat) : Int)) (by first | rfl | (congr 1)) ?_
      refine sw_ialdN ((5 * s) + jj) (w := ((bo ((5 * s) + jj) : Nat) : Int)) (dX9_puts_0.at 19 rfl) (S_lt 51 (by decide)) (S_51 nw nx g) (by decide) hv.1 (hBo _ hv.1) ?_
      replace hv := hv.2
      refine sw_iconst (dX9_puts_0.at 20 rfl) ?_
      refine sw_isub (dX9_puts_0.at 21 rfl) ?_
      refine sw_topI (y := (((bo ((5 * s) + jj)) - 2 : Nat) : Int)) (congrArg _ (Int.ofNat_sub hv.1).symm) ?_
      replace hv := hv.2
      refine sw_cald (dX9_puts_0.at 22 rfl) hv.1 hv.2.1 ?_
      replace hv := hv.2.2
      refine sw_istore (lo' := [some (vr (49)), some (vi (((x : Nat) : Int))), some (vi (((s : Nat) : Int))), some (vi (((d : Nat) : Int))), some (vi (((jj : Nat) : Int))), some (vi (cmn ((((bo ((5 * s) + jj)) - 2 : Nat) : Int).toNat))), none, none, none]) (dX9_puts_0.at 23 rfl) (by decide) rfl ?_
      exact hv
    · replace hv := hv.2.2.2 q
      refine sw_ldc (z := 55439) (dX9_puts_0.at 9 rfl) kc_X9_206 (by decide) ?_
      refine sw_goto (tgt := 40) (dX9_puts_0.at 10 rfl) (by decide) ?_
      refine sw_istore (lo' := [some (vr (49)), some (vi (((x : Nat) : Int))), some (vi (((s : Nat) : Int))), some (vi (((d : Nat) : Int))), some (vi (((jj : Nat) : Int))), some (vi (55439)), none, none, none]) (dX9_puts_0.at 23 rfl) (by decide) rfl ?_
      exact hv

set_option maxHeartbeats 2000000 in
set_option maxRecDepth 20000 in
theorem g_X9_puts_42 {G : GG} {j nw nx gn : Nat} {g : Nat → Sh} {c : Nat → Nat → Int} {post : Option AV → AM → Prop} {x : Nat} {s : Nat} {d : Nat} {r : Nat} {ln : Nat} {bo : Nat → Nat} {im : Nat → Nat} {bh : Nat → Nat} {ah : Nat → Nat} {lo : Nat → Nat} {fr : Nat → Nat} {la : Nat → Nat} {bk : Nat → Nat} {mo : Nat → Nat} {sp : Nat → Int} {mm : Nat} {nn : Nat} {tp : Nat} {hb : Bool} {jj : Nat} {ww : Nat} (hR : c 49 4 = ((r : Nat) : Int)) (hL : c 49 5 = ((ln : Nat) : Int)) (hBo : ∀ i, i < 25 → c 51 i = ((bo i : Nat) : Int))  (hv : SW G (j + 0) mX9_puts 45 [some (vr (49)), some (vi (((x : Nat) : Int))), some (vi (((s : Nat) : Int))), some (vi (((d : Nat) : Int))), some (vi (((jj : Nat) : Int))), some (vi (((ww : Nat) : Int))), some (vi (0)), none, none] [] (S nw nx g, 78 + gn, (lm c im bh ah lo fr la bk mo sp mm nn tp hb)) B0 post) :
    SW G (j + 0) mX9_puts 42 [some (vr (49)), some (vi (((x : Nat) : Int))), some (vi (((s : Nat) : Int))), some (vi (((d : Nat) : Int))), some (vi (((jj : Nat) : Int))), some (vi (((ww : Nat) : Int))), none, none, none] [] (S nw nx g, 78 + gn, (lm c im bh ah lo fr la bk mo sp mm nn tp hb)) B0 post := by
  refine sw_iconst (dX9_puts_0.at 24 rfl) ?_
  refine sw_istore (lo' := [some (vr (49)), some (vi (((x : Nat) : Int))), some (vi (((s : Nat) : Int))), some (vi (((d : Nat) : Int))), some (vi (((jj : Nat) : Int))), some (vi (((ww : Nat) : Int))), some (vi (0)), none, none]) (dX9_puts_0.at 25 rfl) (by decide) rfl ?_
  exact hv

set_option maxHeartbeats 2000000 in
set_option maxRecDepth 20000 in
theorem g_X9_puts_45 {G : GG} {j nw nx gn : Nat} {g : Nat → Sh} {c : Nat → Nat → Int} {post : Option AV → AM → Prop} {x : Nat} {s : Nat} {d : Nat} {r : Nat} {ln : Nat} {bo : Nat → Nat} {im : Nat → Nat} {bh : Nat → Nat} {ah : Nat → Nat} {lo : Nat → Nat} {fr : Nat → Nat} {la : Nat → Nat} {bk : Nat → Nat} {mo : Nat → Nat} {sp : Nat → Int} {mm : Nat} {nn : Nat} {tp : Nat} {hb : Bool} {jj : Nat} {ww : Nat} {u : Nat} (hR : c 49 4 = ((r : Nat) : Int)) (hL : c 49 5 = ((ln : Nat) : Int)) (hBo : ∀ i, i < 25 → c 51 i = ((bo i : Nat) : Int))  (hv : (u < 2147483648) ∧ (r < 2147483648) ∧ (((r ≤ u) → SW G (j + 0) mX9_puts 3 [some (vr (49)), some (vi (((x : Nat) : Int))), some (vi (((s : Nat) : Int))), some (vi (((d : Nat) : Int))), some (vi (((jj + 1 : Nat) : Int))), none, none, none, none] [] (S nw nx g, 78 + gn, (lm c im bh ah lo fr la bk mo sp mm nn tp hb)) B0 post) ∧ ((¬ (r ≤ u)) → (((25 * x) + (5 * jj)) + u < 1525) ∧ ((im (((25 * x) + (5 * jj)) + u) < 2147483648) ∧ ((ww < 2147483648) ∧ ((((25 * x) + (5 * s)) + u < 1525) ∧ ((im (((25 * x) + (5 * s)) + u) < 2147483648) ∧ (((im (((25 * x) + (5 * jj)) + u)) + (ww * (im (((25 * x) + (5 * s)) + u))) < 9223372036854775808) ∧ ((((25 * d) + (5 * jj)) + u < 1525) ∧ (SW G (j + 0) mX9_puts 45 [some (vr (49)), some (vi (((x : Nat) : Int))), some (vi (((s : Nat) : Int))), some (vi (((d : Nat) : Int))), some (vi (((jj : Nat) : Int))), some (vi (((ww : Nat) : Int))), some (vi (((u + 1 : Nat) : Int))), none, none] [] (S nw nx g, 78 + gn, (lm c (uN im (((25 * d) + (5 * jj)) + u) (((im (((25 * x) + (5 * jj)) + u)) + (ww * (im (((25 * x) + (5 * s)) + u)))) % 55441)) bh ah lo fr la bk mo sp mm nn tp hb)) B0 post)))))))))) :
    SW G (j + 0) mX9_puts 45 [some (vr (49)), some (vi (((x : Nat) : Int))), some (vi (((s : Nat) : Int))), some (vi (((d : Nat) : Int))), some (vi (((jj : Nat) : Int))), some (vi (((ww : Nat) : Int))), some (vi (((u : Nat) : Int))), none, none] [] (S nw nx g, 78 + gn, (lm c im bh ah lo fr la bk mo sp mm nn tp hb)) B0 post := by
  refine sw_iload (dX9_puts_0.at 26 rfl) rfl ?_
  refine sw_aload_n (dX9_puts_0.at 27 rfl) rfl rfl ?_
  refine sw_getIE (w := ((r : Nat) : Int)) (dX9_puts_0.at 28 rfl) fp_X9_159 (S_lt 49 (by decide)) (S_49 nw nx g) rfl hR ?_
  refine sw_icmpN_ge u r (tgt := 126) (dX9_puts_0.at 29 rfl) (by decide) hv.1 hv.2.1 (fun q => ?_) (fun q => ?_)
  · replace hv := hv.2.2.1 q
    refine sw_iinc (lo' := [some (vr (49)), some (vi (((x : Nat) : Int))), some (vi (((s : Nat) : Int))), some (vi (((d : Nat) : Int))), some (vi (((jj + 1 : Nat) : Int))), some (vi (((ww : Nat) : Int))), some (vi (((u : Nat) : Int))), none, none]) (dX9_puts_1.at 29 rfl) rfl (by decide) rfl ?_
    refine sw_goto (tgt := 3) (dX9_puts_1.at 30 rfl) (by decide) ?_
    exact sw_mask (bs := [true, true, true, true, true, false, false, false, false]) hv
  · replace hv := hv.2.2.2 q
    refine sw_aload_n (dX9_puts_0.at 30 rfl) rfl rfl ?_
    refine sw_getR (dX9_puts_0.at 31 rfl) fp_X9_23 (S_lt 49 (by decide)) (S_49 nw nx g) rfl rfl ?_
    refine sw_bipush (dX9_puts_0.at 32 rfl) (by decide) ?_
    refine sw_iload_n (dX9_puts_0.at 33 rfl) rfl rfl ?_
    refine sw_imul (dX9_puts_0.at 34 rfl) ?_
    refine sw_topI (y := ((25 * x : Nat) : Int)) (by first | rfl | (congr 1)) ?_
    refine sw_iconst (dX9_puts_0.at 35 rfl) ?_
    refine sw_iload (dX9_puts_0.at 36 rfl) rfl ?_
    refine sw_imul (dX9_puts_0.at 37 rfl) ?_
    refine sw_topI (y := ((5 * jj : Nat) : Int)) (by first | rfl | (congr 1)) ?_
    refine sw_iadd (dX9_puts_0.at 38 rfl) ?_
    refine sw_topI (y := (((25 * x) + (5 * jj) : Nat) : Int)) (by first | rfl | (congr 1)) ?_
    refine sw_iload (dX9_puts_0.at 39 rfl) rfl ?_
    refine sw_iadd (dX9_puts_0.at 40 rfl) ?_
    refine sw_topI (y := ((((25 * x) + (5 * jj)) + u : Nat) : Int)) (by first | rfl | (congr 1)) ?_
    refine sw_ialdN (((25 * x) + (5 * jj)) + u) (w := ((im (((25 * x) + (5 * jj)) + u) : Nat) : Int)) (dX9_puts_0.at 41 rfl) (S_lt 53 (by decide)) (S_53 nw nx g) (by decide) hv.1 rfl ?_
    replace hv := hv.2
    refine sw_i2l (dX9_puts_0.at 42 rfl) (nrng hv.1) ?_
    replace hv := hv.2
    refine sw_iload (dX9_puts_0.at 43 rfl) rfl ?_
    refine sw_i2l (dX9_puts_0.at 44 rfl) (nrng hv.1) ?_
    replace hv := hv.2
    refine sw_aload_n (dX9_puts_0.at 45 rfl) rfl rfl ?_
    refine sw_getR (dX9_puts_0.at 46 rfl) fp_X9_23 (S_lt 49 (by decide)) (S_49 nw nx g) rfl rfl ?_
    refine sw_bipush (dX9_puts_0.at 47 rfl) (by decide) ?_
    refine sw_iload_n (dX9_puts_0.at 48 rfl) rfl rfl ?_
    refine sw_imul (dX9_puts_0.at 49 rfl) ?_
    refine sw_topI (y := ((25 * x : Nat) : Int)) (by first | rfl | (congr 1)) ?_
    refine sw_iconst (dX9_puts_1.at 0 rfl) ?_
    refine sw_iload_n (dX9_puts_1.at 1 rfl) rfl rfl ?_
    refine sw_imul (dX9_puts_1.at 2 rfl) ?_
    refine sw_topI (y := ((5 * s : Nat) : Int)) (by first | rfl | (congr 1)) ?_
    refine sw_iadd (dX9_puts_1.at 3 rfl) ?_
    refine sw_topI (y := (((25 * x) + (5 * s) : Nat) : Int)) (by first | rfl | (congr 1)) ?_
    refine sw_iload (dX9_puts_1.at 4 rfl) rfl ?_
    refine sw_iadd (dX9_puts_1.at 5 rfl) ?_
    refine sw_topI (y := ((((25 * x) + (5 * s)) + u : Nat) : Int)) (by first | rfl | (congr 1)) ?_
    refine sw_ialdN (((25 * x) + (5 * s)) + u) (w := ((im (((25 * x) + (5 * s)) + u) : Nat) : Int)) (dX9_puts_1.at 6 rfl) (S_lt 53 (by decide)) (S_53 nw nx g) (by decide) hv.1 rfl ?_
    replace hv := hv.2
    refine sw_i2l (dX9_puts_1.at 7 rfl) (nrng hv.1) ?_
    replace hv := hv.2
    refine sw_lmul (dX9_puts_1.at 8 rfl) ?_
    refine sw_topL (y := ((ww * (im (((25 * x) + (5 * s)) + u)) : Nat) : Int)) (by first | rfl | (congr 1)) ?_
    refine sw_ladd (dX9_puts_1.at 9 rfl) ?_
    refine sw_topL (y := (((im (((25 * x) + (5 * jj)) + u)) + (ww * (im (((25 * x) + (5 * s)) + u))) : Nat) : Int)) (by first | rfl | (congr 1)) ?_
    refine sw_lstore (lo' := [some (vr (49)), some (vi (((x : Nat) : Int))), some (vi (((s : Nat) : Int))), some (vi (((d : Nat) : Int))), some (vi (((jj : Nat) : Int))), some (vi (((ww : Nat) : Int))), some (vi (((u : Nat) : Int))), some (vl ((((im (((25 * x) + (5 * jj)) + u)) + (ww * (im (((25 * x) + (5 * s)) + u))) : Nat) : Int))), none]) (dX9_puts_1.at 10 rfl) (by decide) rfl ?_
    refine sw_aload_n (dX9_puts_1.at 11 rfl) rfl rfl ?_
    refine sw_getR (dX9_puts_1.at 12 rfl) fp_X9_23 (S_lt 49 (by decide)) (S_49 nw nx g) rfl rfl ?_
    refine sw_bipush (dX9_puts_1.at 13 rfl) (by decide) ?_
    refine sw_iload_n (dX9_puts_1.at 14 rfl) rfl rfl ?_
    refine sw_imul (dX9_puts_1.at 15 rfl) ?_
    refine sw_topI (y := ((25 * d : Nat) : Int)) (by first | rfl | (congr 1)) ?_
    refine sw_iconst (dX9_puts_1.at 16 rfl) ?_
    refine sw_iload (dX9_puts_1.at 17 rfl) rfl ?_
    refine sw_imul (dX9_puts_1.at 18 rfl) ?_
    refine sw_topI (y := ((5 * jj : Nat) : Int)) (by first | rfl | (congr 1)) ?_
    refine sw_iadd (dX9_puts_1.at 19 rfl) ?_
    refine sw_topI (y := (((25 * d) + (5 * jj) : Nat) : Int)) (by first | rfl | (congr 1)) ?_
    refine sw_iload (dX9_puts_1.at 20 rfl) rfl ?_
    refine sw_iadd (dX9_puts_1.at 21 rfl) ?_
    refine sw_topI (y := ((((25 * d) + (5 * jj)) + u : Nat) : Int)) (by first | rfl | (congr 1)) ?_
    refine sw_lload (dX9_puts_1.at 22 rfl) rfl ?_
    refine sw_ldc2 (z := 55441) (dX9_puts_1.at 23 rfl) kc_X9_210 (by decide) ?_
    refine sw_lremN ((im (((25 * x) + (5 * jj)) + u)) + (ww * (im (((25 * x) + (5 * s)) + u)))) 55441 (dX9_puts_1.at 24 rfl) (by decide) (by decide) hv.1 ?_
    replace hv := hv.2
    refine sw_l2i (dX9_puts_1.at 25 rfl) ?_
    refine sw_iastN (((25 * d) + (5 * jj)) + u) (dX9_puts_1.at 26 rfl) (S_lt 53 (by decide)) (S_53 nw nx g) (by decide) hv.1 ?_
    refine SW.cg (M' := (S nw nx g, 78 + gn, (lm c (uN im (((25 * d) + (5 * jj)) + u) (((im (((25 * x) + (5 * jj)) + u)) + (ww * (im (((25 * x) + (5 * s)) + u)))) % 55441)) bh ah lo fr la bk mo sp mm nn tp hb))) (congrArg (fun m => (S nw nx g, 78 + gn, m)) lm_a53) ?_
    replace hv := hv.2
    refine sw_iinc (lo' := [some (vr (49)), some (vi (((x : Nat) : Int))), some (vi (((s : Nat) : Int))), some (vi (((d : Nat) : Int))), some (vi (((jj : Nat) : Int))), some (vi (((ww : Nat) : Int))), some (vi (((u + 1 : Nat) : Int))), some (vl ((((im (((25 * x) + (5 * jj)) + u)) + (ww * (im (((25 * x) + (5 * s)) + u))) : Nat) : Int))), none]) (dX9_puts_1.at 27 rfl) rfl (by decide) rfl ?_
    refine sw_goto (tgt := 45) (dX9_puts_1.at 28 rfl) (by decide) ?_
    exact sw_mask (bs := [true, true, true, true, true, true, true, false, false]) hv

def PIn (r : Nat) (bo im imC : Nat → Nat) (x s d jj u : Nat) : Prop := (∀ k, k < 25 * d → imC k = im k) ∧ (∀ q i, q < r → i < r → (q < jj ∨ (q = jj ∧ i < u)) → imC (25 * d + 5 * q + i) = stp bo im x s q i)
theorem PIn_next {r : Nat} {bo im imC : Nat → Nat} {x s d jj u : Nat} (hr : r ≤ 5) (hu : u < r) (hj : jj < r) (h : PIn r bo im imC x s d jj u) : PIn r bo im (uN imC (25 * d + 5 * jj + u) (stp bo im x s jj u)) x s d jj (u + 1) := by
  refine ⟨fun k hk => ?_, fun q i hq hi hh => ?_⟩
  · rw [uN, if_neg (by omega)]; exact h.1 k hk
  · by_cases e : q = jj ∧ i = u
    · obtain ⟨rfl, rfl⟩ := e
      rw [uN, if_pos rfl]
    · rw [uN, if_neg (by omega)]
      exact h.2 q i hq hi (by omega)
set_option maxHeartbeats 4000000 in
theorem lp_X9_puts_45 {G : GG} {j nw nx gn : Nat} {g : Nat → Sh} {c : Nat → Nat → Int} {post : Option AV → AM → Prop} {r : Nat} {ln : Nat} {bo : Nat → Nat} {im : Nat → Nat} {bh : Nat → Nat} {ah : Nat → Nat} {lo : Nat → Nat} {fr : Nat → Nat} {la : Nat → Nat} {bk : Nat → Nat} {mo : Nat → Nat} {sp : Nat → Int} {mm : Nat} {nn : Nat} {tp : Nat} {hb : Bool} {x s d jj ww : Nat} (hR : c 49 4 = ((r : Nat) : Int)) (hL : c 49 5 = ((ln : Nat) : Int)) (hBo : ∀ i, i < 25 → c 51 i = ((bo i : Nat) : Int)) (hr : r ≤ 5) (hx : x < d) (hd : d ≤ 60) (hs : s < r) (hj : jj < r) (hw : ww = wth bo s jj) (hI : ∀ z q i, z < d → q < r → i < r → im (25 * z + 5 * q + i) < 55441) (K : ∀ imC : Nat → Nat, PIn r bo im imC x s d (jj + 1) 0 → SW G (j + 0) mX9_puts 3 [some (vr (49)), some (vi (((x : Nat) : Int))), some (vi (((s : Nat) : Int))), some (vi (((d : Nat) : Int))), some (vi (((jj + 1 : Nat) : Int))), none, none, none, none] [] (S nw nx g, 78 + gn, (lm c imC bh ah lo fr la bk mo sp mm nn tp hb)) B0 post) : ∀ (k u : Nat) (imC : Nat → Nat), u + k = r → PIn r bo im imC x s d jj u → SW G (j + 0) mX9_puts 45 [some (vr (49)), some (vi (((x : Nat) : Int))), some (vi (((s : Nat) : Int))), some (vi (((d : Nat) : Int))), some (vi (((jj : Nat) : Int))), some (vi (((ww : Nat) : Int))), some (vi (((u : Nat) : Int))), none, none] [] (S nw nx g, 78 + gn, (lm c imC bh ah lo fr la bk mo sp mm nn tp hb)) B0 post := by
  intro k
  have hwl := wth_lt bo s jj
  induction k with
  | zero =>
    intro u imC hu h
    refine g_X9_puts_45 hR hL hBo ?_
    refine ⟨?_, ?_, ⟨fun q => ?_, fun q => ⟨?_, ⟨?_, ⟨?_, ⟨?_, ⟨?_, ⟨?_, ⟨?_, ?_⟩⟩⟩⟩⟩⟩⟩⟩⟩
    all_goals first | omega | (exfalso; omega) | exact K imC ⟨h.1, fun q i hq hi hh => h.2 q i hq hi (by omega)⟩
  | succ k ih =>
    intro u imC hu h
    have e1 := h.1 (25 * x + 5 * jj + u) (by omega)
    have e2 := h.1 (25 * x + 5 * s + u) (by omega)
    have i1 := hI x jj u hx hj (by omega)
    have i2 := hI x s u hx hs (by omega)
    have hm : ww * im (25 * x + 5 * s + u) ≤ 55441 * 55441 := Nat.mul_le_mul (by omega) (by omega)
    have hn := PIn_next hr (by omega) hj h
    rw [stp, ← hw] at hn
    refine g_X9_puts_45 hR hL hBo ?_
    rw [e1, e2]
    refine ⟨?_, ?_, ⟨fun q => ?_, fun q => ⟨?_, ⟨?_, ⟨?_, ⟨?_, ⟨?_, ⟨?_, ⟨?_, ?_⟩⟩⟩⟩⟩⟩⟩⟩⟩
    all_goals first | omega | (exfalso; omega) | exact ih _ _ (by omega) hn
set_option maxHeartbeats 4000000 in
theorem lp_X9_puts_3 {G : GG} {j nw nx gn : Nat} {g : Nat → Sh} {c : Nat → Nat → Int} {post : Option AV → AM → Prop} {r : Nat} {ln : Nat} {bo : Nat → Nat} {im : Nat → Nat} {bh : Nat → Nat} {ah : Nat → Nat} {lo : Nat → Nat} {fr : Nat → Nat} {la : Nat → Nat} {bk : Nat → Nat} {mo : Nat → Nat} {sp : Nat → Int} {mm : Nat} {nn : Nat} {tp : Nat} {hb : Bool} {x s d : Nat} (hR : c 49 4 = ((r : Nat) : Int)) (hL : c 49 5 = ((ln : Nat) : Int)) (hBo : ∀ i, i < 25 → c 51 i = ((bo i : Nat) : Int)) (hr : r ≤ 5) (hx : x < d) (hd : d ≤ 60) (hs : s < r) (hbo : ∀ q, q < r → q ≠ s → 2 ≤ bo (5 * s + q) ∧ bo (5 * s + q) ≤ 12) (hI : ∀ z q i, z < d → q < r → i < r → im (25 * z + 5 * q + i) < 55441) (K : ∀ im2 : Nat → Nat, PUT r bo im im2 x s d → post none (S nw nx g, 78 + gn, (lm c im2 bh ah lo fr la bk mo sp mm nn tp hb))) : ∀ (k jj : Nat) (imC : Nat → Nat), jj + k = r → PIn r bo im imC x s d jj 0 → SW G (j + 0) mX9_puts 3 [some (vr (49)), some (vi (((x : Nat) : Int))), some (vi (((s : Nat) : Int))), some (vi (((d : Nat) : Int))), some (vi (((jj : Nat) : Int))), none, none, none, none] [] (S nw nx g, 78 + gn, (lm c imC bh ah lo fr la bk mo sp mm nn tp hb)) B0 post := by
  intro k
  induction k with
  | zero =>
    intro jj imC hu h
    refine g_X9_puts_3 hR hL hBo ?_
    refine ⟨?_, ?_, ⟨fun q => ?_, fun q => ⟨?_, ?_, ⟨fun q => ⟨?_, ⟨?_, ⟨?_, ?_, ?_⟩⟩⟩, fun q => ?_⟩⟩⟩⟩
    all_goals first | omega | (exfalso; omega) | exact K imC ⟨h.1, fun q i hq hi => h.2 q i hq hi (by omega)⟩
  | succ k ih =>
    intro jj imC hu h
    have hj : jj < r := by omega
    refine g_X9_puts_3 hR hL hBo ?_
    by_cases e : jj = s
    · have hw : 55439 = wth bo s jj := by rw [wth, if_pos e]
      refine ⟨?_, ?_, ⟨fun q => ?_, fun q => ⟨?_, ?_, ⟨fun q => ⟨?_, ⟨?_, ⟨?_, ?_, ?_⟩⟩⟩, fun q => ?_⟩⟩⟩⟩
      all_goals first | omega | (exfalso; omega) | exact g_X9_puts_42 (ww := 55439) hR hL hBo (lp_X9_puts_45 (im := im) hR hL hBo hr hx hd hs hj hw hI (fun i2 h2 => ih _ _ (by omega) h2) r 0 imC (by omega) h)
    · have hb := hbo jj hj e
      have hw : cmN (bo (5 * s + jj) - 2) = wth bo s jj := by rw [wth, if_neg e]
      have e3 : cmn ((((bo (5 * s + jj)) - 2 : Nat) : Int).toNat) = ((cmN (bo (5 * s + jj) - 2) : Nat) : Int) := by rw [Int.toNat_natCast]; exact cmn_N _
      rw [e3]
      refine ⟨?_, ?_, ⟨fun q => ?_, fun q => ⟨?_, ?_, ⟨fun q => ⟨?_, ⟨?_, ⟨?_, ?_, ?_⟩⟩⟩, fun q => ?_⟩⟩⟩⟩
      all_goals first | omega | (exfalso; omega) | exact g_X9_puts_42 (ww := cmN (bo (5 * s + jj) - 2)) hR hL hBo (lp_X9_puts_45 (im := im) hR hL hBo hr hx hd hs hj hw hI (fun i2 h2 => ih _ _ (by omega) h2) r 0 imC (by omega) h)
theorem c_X9_puts {G : GG} {j nw nx gn : Nat} {g : Nat → Sh} {c : Nat → Nat → Int} {post : Option AV → AM → Prop} {r : Nat} {ln : Nat} {bo : Nat → Nat} {im : Nat → Nat} {bh : Nat → Nat} {ah : Nat → Nat} {lo : Nat → Nat} {fr : Nat → Nat} {la : Nat → Nat} {bk : Nat → Nat} {mo : Nat → Nat} {sp : Nat → Int} {mm : Nat} {nn : Nat} {tp : Nat} {hb : Bool} {x s d : Nat} (hR : c 49 4 = ((r : Nat) : Int)) (hL : c 49 5 = ((ln : Nat) : Int)) (hBo : ∀ i, i < 25 → c 51 i = ((bo i : Nat) : Int)) (hr : r ≤ 5) (hx : x < d) (hd : d ≤ 60) (hs : s < r) (hbo : ∀ q, q < r → q ≠ s → 2 ≤ bo (5 * s + q) ∧ bo (5 * s + q) ≤ 12) (hI : ∀ z q i, z < d → q < r → i < r → im (25 * z + 5 * q + i) < 55441) (K : ∀ im2 : Nat → Nat, PUT r bo im im2 x s d → post none (S nw nx g, 78 + gn, (lm c im2 bh ah lo fr la bk mo sp mm nn tp hb))) : SM G (j + 1) mX9_puts [vr (49), vi (((x : Nat) : Int)), vi (((s : Nat) : Int)), vi (((d : Nat) : Int))] (S nw nx g, 78 + gn, (lm c im bh ah lo fr la bk mo sp mm nn tp hb)) 0 0 post := by
  refine sm_of wX9_puts rfl (Nat.le_of_ble_eq_true rfl) ?_
  refine g_X9_puts_0 hR hL hBo ?_
  exact lp_X9_puts_3 hR hL hBo hr hx hd hs hbo hI K r 0 im (by omega) ⟨fun _ _ => rfl, fun q i _ _ h => absurd h (by omega)⟩

def SAM (r : Nat) (im : Nat → Nat) (x d : Nat) : Prop := ∀ q i, q < r → i < r → im (25 * x + 5 * q + i) = im (25 * d + 5 * q + i)
set_option maxHeartbeats 2000000 in
set_option maxRecDepth 20000 in
theorem g_X9_isSame_0 {G : GG} {j nw nx gn : Nat} {g : Nat → Sh} {c : Nat → Nat → Int} {post : Option AV → AM → Prop} {x : Nat} {d : Nat} {r : Nat} {ln : Nat} {bo : Nat → Nat} {im : Nat → Nat} {bh : Nat → Nat} {ah : Nat → Nat} {lo : Nat → Nat} {fr : Nat → Nat} {la : Nat → Nat} {bk : Nat → Nat} {mo : Nat → Nat} {sp : Nat → Int} {mm : Nat} {nn : Nat} {tp : Nat} {hb : Bool} (hR : c 49 4 = ((r : Nat) : Int)) (hL : c 49 5 = ((ln : Nat) : Int)) (hBo : ∀ i, i < 25 → c 51 i = ((bo i : Nat) : Int))  (hv : SW G (j + 0) mX9_isSame 2 [some (vr (49)), some (vi (((x : Nat) : Int))), some (vi (((d : Nat) : Int))), some (vi (0)), none] [] (S nw nx g, 78 + gn, (lm c im bh ah lo fr la bk mo sp mm nn tp hb)) B0 post) :
    SW G (j + 0) mX9_isSame 0 [some (vr (49)), some (vi (((x : Nat) : Int))), some (vi (((d : Nat) : Int))), none, none] [] (S nw nx g, 78 + gn, (lm c im bh ah lo fr la bk mo sp mm nn tp hb)) B0 post := by
  refine sw_iconst (dX9_isSame.at 0 rfl) ?_
  refine sw_istore_n (lo' := [some (vr (49)), some (vi (((x : Nat) : Int))), some (vi (((d : Nat) : Int))), some (vi (0)), none]) (dX9_isSame.at 1 rfl) rfl (by decide) rfl ?_
  exact hv

set_option maxHeartbeats 2000000 in
set_option maxRecDepth 20000 in
theorem g_X9_isSame_2 {G : GG} {j nw nx gn : Nat} {g : Nat → Sh} {c : Nat → Nat → Int} {post : Option AV → AM → Prop} {x : Nat} {d : Nat} {r : Nat} {ln : Nat} {bo : Nat → Nat} {im : Nat → Nat} {bh : Nat → Nat} {ah : Nat → Nat} {lo : Nat → Nat} {fr : Nat → Nat} {la : Nat → Nat} {bk : Nat → Nat} {mo : Nat → Nat} {sp : Nat → Int} {mm : Nat} {nn : Nat} {tp : Nat} {hb : Bool} {jj : Nat} (hR : c 49 4 = ((r : Nat) : Int)) (hL : c 49 5 = ((ln : Nat) : Int)) (hBo : ∀ i, i < 25 → c 51 i = ((bo i : Nat) : Int))  (hv : (jj < 2147483648) ∧ (r < 2147483648) ∧ (((r ≤ jj) → post (some (vi (1))) (S nw nx g, 78 + gn, (lm c im bh ah lo fr la bk mo sp mm nn tp hb))) ∧ ((¬ (r ≤ jj)) → SW G (j + 0) mX9_isSame 13 [some (vr (49)), some (vi (((x : Nat) : Int))), some (vi (((d : Nat) : Int))), some (vi (((jj : Nat) : Int))), some (vi (0))] [] (S nw nx g, 78 + gn, (lm c im bh ah lo fr la bk mo sp mm nn tp hb)) B0 post))) :
    SW G (j + 0) mX9_isSame 2 [some (vr (49)), some (vi (((x : Nat) : Int))), some (vi (((d : Nat) : Int))), some (vi (((jj : Nat) : Int))), none] [] (S nw nx g, 78 + gn, (lm c im bh ah lo fr la bk mo sp mm nn tp hb)) B0 post := by
  refine sw_iload_n (dX9_isSame.at 2 rfl) rfl rfl ?_
  refine sw_aload_n (dX9_isSame.at 3 rfl) rfl rfl ?_
  refine sw_getIE (w := ((r : Nat) : Int)) (dX9_isSame.at 4 rfl) fp_X9_159 (S_lt 49 (by decide)) (S_49 nw nx g) rfl hR ?_
  refine sw_icmpN_ge jj r (tgt := 71) (dX9_isSame.at 5 rfl) (by decide) hv.1 hv.2.1 (fun q => ?_) (fun q => ?_)
  · replace hv := hv.2.2.1 q
    refine sw_iconst (dX9_isSame.at 43 rfl) ?_
    exact sw_zret (dX9_isSame.at 44 rfl) rfl (by decide) (Nat.le_refl _) (Nat.le_refl _) hv
  · replace hv := hv.2.2.2 q
    refine sw_iconst (dX9_isSame.at 6 rfl) ?_
    refine sw_istore (lo' := [some (vr (49)), some (vi (((x : Nat) : Int))), some (vi (((d : Nat) : Int))), some (vi (((jj : Nat) : Int))), some (vi (0))]) (dX9_isSame.at 7 rfl) (by decide) rfl ?_
    exact hv

set_option maxHeartbeats 2000000 in
set_option maxRecDepth 20000 in
theorem g_X9_isSame_13 {G : GG} {j nw nx gn : Nat} {g : Nat → Sh} {c : Nat → Nat → Int} {post : Option AV → AM → Prop} {x : Nat} {d : Nat} {r : Nat} {ln : Nat} {bo : Nat → Nat} {im : Nat → Nat} {bh : Nat → Nat} {ah : Nat → Nat} {lo : Nat → Nat} {fr : Nat → Nat} {la : Nat → Nat} {bk : Nat → Nat} {mo : Nat → Nat} {sp : Nat → Int} {mm : Nat} {nn : Nat} {tp : Nat} {hb : Bool} {jj : Nat} {u : Nat} (hR : c 49 4 = ((r : Nat) : Int)) (hL : c 49 5 = ((ln : Nat) : Int)) (hBo : ∀ i, i < 25 → c 51 i = ((bo i : Nat) : Int))  (hv : (u < 2147483648) ∧ (r < 2147483648) ∧ (((r ≤ u) → SW G (j + 0) mX9_isSame 2 [some (vr (49)), some (vi (((x : Nat) : Int))), some (vi (((d : Nat) : Int))), some (vi (((jj + 1 : Nat) : Int))), none] [] (S nw nx g, 78 + gn, (lm c im bh ah lo fr la bk mo sp mm nn tp hb)) B0 post) ∧ ((¬ (r ≤ u)) → (((25 * x) + (5 * jj)) + u < 1525) ∧ ((((25 * d) + (5 * jj)) + u < 1525) ∧ ((im (((25 * x) + (5 * jj)) + u) < 2147483648) ∧ (im (((25 * d) + (5 * jj)) + u) < 2147483648) ∧ (((im (((25 * x) + (5 * jj)) + u) = im (((25 * d) + (5 * jj)) + u)) → SW G (j + 0) mX9_isSame 13 [some (vr (49)), some (vi (((x : Nat) : Int))), some (vi (((d : Nat) : Int))), some (vi (((jj : Nat) : Int))), some (vi (((u + 1 : Nat) : Int)))] [] (S nw nx g, 78 + gn, (lm c im bh ah lo fr la bk mo sp mm nn tp hb)) B0 post) ∧ ((¬ (im (((25 * x) + (5 * jj)) + u) = im (((25 * d) + (5 * jj)) + u))) → post (some (vi (0))) (S nw nx g, 78 + gn, (lm c im bh ah lo fr la bk mo sp mm nn tp hb))))))))) :
    SW G (j + 0) mX9_isSame 13 [some (vr (49)), some (vi (((x : Nat) : Int))), some (vi (((d : Nat) : Int))), some (vi (((jj : Nat) : Int))), some (vi (((u : Nat) : Int)))] [] (S nw nx g, 78 + gn, (lm c im bh ah lo fr la bk mo sp mm nn tp hb)) B0 post := by
  refine sw_iload (dX9_isSame.at 8 rfl) rfl ?_
  refine sw_aload_n (dX9_isSame.at 9 rfl) rfl rfl ?_
  refine sw_getIE (w := ((r : Nat) : Int)) (dX9_isSame.at 10 rfl) fp_X9_159 (S_lt 49 (by decide)) (S_49 nw nx g) rfl hR ?_
  refine sw_icmpN_ge u r (tgt := 65) (dX9_isSame.at 11 rfl) (by decide) hv.1 hv.2.1 (fun q => ?_) (fun q => ?_)
  · replace hv := hv.2.2.1 q
    refine sw_iinc (lo' := [some (vr (49)), some (vi (((x : Nat) : Int))), some (vi (((d : Nat) : Int))), some (vi (((jj + 1 : Nat) : Int))), some (vi (((u : Nat) : Int)))]) (dX9_isSame.at 41 rfl) rfl (by decide) rfl ?_
    refine sw_goto (tgt := 2) (dX9_isSame.at 42 rfl) (by decide) ?_
    exact sw_mask (bs := [true, true, true, true, false]) hv
  · replace hv := hv.2.2.2 q
    refine sw_aload_n (dX9_isSame.at 12 rfl) rfl rfl ?_
    refine sw_getR (dX9_isSame.at 13 rfl) fp_X9_23 (S_lt 49 (by decide)) (S_49 nw nx g) rfl rfl ?_
    refine sw_bipush (dX9_isSame.at 14 rfl) (by decide) ?_
    refine sw_iload_n (dX9_isSame.at 15 rfl) rfl rfl ?_
    refine sw_imul (dX9_isSame.at 16 rfl) ?_
    refine sw_topI (y := ((25 * x : Nat) : Int)) (by first | rfl | (congr 1)) ?_
    refine sw_iconst (dX9_isSame.at 17 rfl) ?_
    refine sw_iload_n (dX9_isSame.at 18 rfl) rfl rfl ?_
    refine sw_imul (dX9_isSame.at 19 rfl) ?_
    refine sw_topI (y := ((5 * jj : Nat) : Int)) (by first | rfl | (congr 1)) ?_
    refine sw_iadd (dX9_isSame.at 20 rfl) ?_
    refine sw_topI (y := (((25 * x) + (5 * jj) : Nat) : Int)) (by first | rfl | (congr 1)) ?_
    refine sw_iload (dX9_isSame.at 21 rfl) rfl ?_
    refine sw_iadd (dX9_isSame.at 22 rfl) ?_
    refine sw_topI (y := ((((25 * x) + (5 * jj)) + u : Nat) : Int)) (by first | rfl | (congr 1)) ?_
    refine sw_ialdN (((25 * x) + (5 * jj)) + u) (w := ((im (((25 * x) + (5 * jj)) + u) : Nat) : Int)) (dX9_isSame.at 23 rfl) (S_lt 53 (by decide)) (S_53 nw nx g) (by decide) hv.1 rfl ?_
    replace hv := hv.2
    refine sw_aload_n (dX9_isSame.at 24 rfl) rfl rfl ?_
    refine sw_getR (dX9_isSame.at 25 rfl) fp_X9_23 (S_lt 49 (by decide)) (S_49 nw nx g) rfl rfl ?_
    refine sw_bipush (dX9_isSame.at 26 rfl) (by decide) ?_
    refine sw_iload_n (dX9_isSame.at 27 rfl) rfl rfl ?_
    refine sw_imul (dX9_isSame.at 28 rfl) ?_
    refine sw_topI (y := ((25 * d : Nat) : Int)) (by first | rfl | (congr 1)) ?_
    refine sw_iconst (dX9_isSame.at 29 rfl) ?_
    refine sw_iload_n (dX9_isSame.at 30 rfl) rfl rfl ?_
    refine sw_imul (dX9_isSame.at 31 rfl) ?_
    refine sw_topI (y := ((5 * jj : Nat) : Int)) (by first | rfl | (congr 1)) ?_
    refine sw_iadd (dX9_isSame.at 32 rfl) ?_
    refine sw_topI (y := (((25 * d) + (5 * jj) : Nat) : Int)) (by first | rfl | (congr 1)) ?_
    refine sw_iload (dX9_isSame.at 33 rfl) rfl ?_
    refine sw_iadd (dX9_isSame.at 34 rfl) ?_
    refine sw_topI (y := ((((25 * d) + (5 * jj)) + u : Nat) : Int)) (by first | rfl | (congr 1)) ?_
    refine sw_ialdN (((25 * d) + (5 * jj)) + u) (w := ((im (((25 * d) + (5 * jj)) + u) : Nat) : Int)) (dX9_isSame.at 35 rfl) (S_lt 53 (by decide)) (S_53 nw nx g) (by decide) hv.1 rfl ?_
    replace hv := hv.2
    refine sw_icmpN_eq (im (((25 * x) + (5 * jj)) + u)) (im (((25 * d) + (5 * jj)) + u)) (tgt := 59) (dX9_isSame.at 36 rfl) (by decide) hv.1 hv.2.1 (fun q => ?_) (fun q => ?_)
    · replace hv := hv.2.2.1 q
      refine sw_iinc (lo' := [some (vr (49)), some (vi (((x : Nat) : Int))), some (vi (((d : Nat) : Int))), some (vi (((jj : Nat) : Int))), some (vi (((u + 1 : Nat) : Int)))]) (dX9_isSame.at 39 rfl) rfl (by decide) rfl ?_
      refine sw_goto (tgt := 13) (dX9_isSame.at 40 rfl) (by decide) ?_
      exact hv
    · replace hv := hv.2.2.2 q
      refine sw_iconst (dX9_isSame.at 37 rfl) ?_
      exact sw_zret (dX9_isSame.at 38 rfl) rfl (by decide) (Nat.le_refl _) (Nat.le_refl _) hv

set_option maxHeartbeats 4000000 in
theorem c_X9_isSame {G : GG} {j nw nx gn : Nat} {g : Nat → Sh} {c : Nat → Nat → Int} {post : Option AV → AM → Prop} {r : Nat} {ln : Nat} {bo : Nat → Nat} {im : Nat → Nat} {bh : Nat → Nat} {ah : Nat → Nat} {lo : Nat → Nat} {fr : Nat → Nat} {la : Nat → Nat} {bk : Nat → Nat} {mo : Nat → Nat} {sp : Nat → Int} {mm : Nat} {nn : Nat} {tp : Nat} {hb : Bool} {x d : Nat} (hR : c 49 4 = ((r : Nat) : Int)) (hL : c 49 5 = ((ln : Nat) : Int)) (hBo : ∀ i, i < 25 → c 51 i = ((bo i : Nat) : Int)) (hr : r ≤ 5) (hx : x ≤ 60) (hd : d ≤ 60) (hI : ∀ q i, q < r → i < r → im (25 * x + 5 * q + i) < 55441 ∧ im (25 * d + 5 * q + i) < 55441) (K1 : SAM r im x d → post (some (vi 1)) (S nw nx g, 78 + gn, (lm c im bh ah lo fr la bk mo sp mm nn tp hb))) (K2 : ¬ SAM r im x d → post (some (vi 0)) (S nw nx g, 78 + gn, (lm c im bh ah lo fr la bk mo sp mm nn tp hb))) : SM G (j + 1) mX9_isSame [vr (49), vi (((x : Nat) : Int)), vi (((d : Nat) : Int))] (S nw nx g, 78 + gn, (lm c im bh ah lo fr la bk mo sp mm nn tp hb)) 0 0 post := by
  have L13 : ∀ jj, jj < r → (∀ q i, q < jj → i < r → im (25 * x + 5 * q + i) = im (25 * d + 5 * q + i)) → ((∀ q i, q < jj + 1 → i < r → im (25 * x + 5 * q + i) = im (25 * d + 5 * q + i)) → SW G (j + 0) mX9_isSame 2 [some (vr (49)), some (vi (((x : Nat) : Int))), some (vi (((d : Nat) : Int))), some (vi (((jj + 1 : Nat) : Int))), none] [] (S nw nx g, 78 + gn, (lm c im bh ah lo fr la bk mo sp mm nn tp hb)) B0 post) → ∀ k u, u + k = r → (∀ i, i < u → im (25 * x + 5 * jj + i) = im (25 * d + 5 * jj + i)) → SW G (j + 0) mX9_isSame 13 [some (vr (49)), some (vi (((x : Nat) : Int))), some (vi (((d : Nat) : Int))), some (vi (((jj : Nat) : Int))), some (vi (((u : Nat) : Int)))] [] (S nw nx g, 78 + gn, (lm c im bh ah lo fr la bk mo sp mm nn tp hb)) B0 post := by
    intro jj hj h0 K k
    induction k with
    | zero =>
      intro u hu h
      refine g_X9_isSame_13 hR hL hBo ?_
      refine ⟨?_, ?_, ⟨fun q => ?_, fun q => ⟨?_, ⟨?_, ⟨?_, ?_, ⟨fun q => ?_, fun q => ?_⟩⟩⟩⟩⟩⟩
      all_goals first | omega | (exfalso; omega) | skip
      refine K (fun q i hq hi => ?_)
      by_cases e : q = jj
      · rw [e]; exact h i (by omega)
      · exact h0 q i (by omega) hi
    | succ k ih =>
      intro u hu h
      have hi := hI jj u hj (by omega)
      refine g_X9_isSame_13 hR hL hBo ?_
      by_cases e : im (25 * x + 5 * jj + u) = im (25 * d + 5 * jj + u)
      · refine ⟨?_, ?_, ⟨fun q => ?_, fun q => ⟨?_, ⟨?_, ⟨?_, ?_, ⟨fun q => ?_, fun q => ?_⟩⟩⟩⟩⟩⟩
        all_goals first | omega | (exfalso; omega) | (refine ih _ (by omega) (fun i hi => ?_); by_cases e2 : i = u; (rw [e2]; exact e); exact h i (by omega))
      · refine ⟨?_, ?_, ⟨fun q => ?_, fun q => ⟨?_, ⟨?_, ⟨?_, ?_, ⟨fun q => ?_, fun q => ?_⟩⟩⟩⟩⟩⟩
        all_goals first | omega | (exfalso; omega) | exact K2 (fun q => e (q jj u hj (by omega)))
  have L2 : ∀ k jj, jj + k = r → (∀ q i, q < jj → i < r → im (25 * x + 5 * q + i) = im (25 * d + 5 * q + i)) → SW G (j + 0) mX9_isSame 2 [some (vr (49)), some (vi (((x : Nat) : Int))), some (vi (((d : Nat) : Int))), some (vi (((jj : Nat) : Int))), none] [] (S nw nx g, 78 + gn, (lm c im bh ah lo fr la bk mo sp mm nn tp hb)) B0 post := by
    intro k
    induction k with
    | zero =>
      intro jj hj h
      refine g_X9_isSame_2 hR hL hBo ?_
      refine ⟨?_, ?_, ⟨fun q => ?_, fun q => ?_⟩⟩
      all_goals first | omega | (exfalso; omega) | exact K1 (fun q i hq hi => h q i (by omega) hi)
    | succ k ih =>
      intro jj hj h
      refine g_X9_isSame_2 hR hL hBo ?_
      refine ⟨?_, ?_, ⟨fun q => ?_, fun q => ?_⟩⟩
      all_goals first | omega | (exfalso; omega) | exact L13 jj (by omega) h (fun h2 => ih _ (by omega) h2) r 0 (by omega) (fun i hi => absurd hi (by omega))
  refine sm_of wX9_isSame rfl (Nat.le_of_ble_eq_true rfl) ?_
  refine g_X9_isSame_0 hR hL hBo ?_
  exact L2 r 0 (by omega) (fun q i hq _ => absurd hq (by omega))

