theorem STok_n5 {st : Nat → Int} {m : Nat} (h : STok st m) : STok (n5 st m) (m + 1) := by
  intro x s hx hs
  rw [n5_at st m x s hs]
  by_cases e : x = m
  · rw [if_pos e]; exact Or.inl rfl
  · rw [if_neg e]
    rcases h x s (by omega) hs with h | ⟨v, a, b⟩
    · exact Or.inl h
    · exact Or.inr ⟨v, by omega, b⟩
theorem STok_lnk {st : Nat → Int} {m v t x : Nat} (h : STok st m) (hv : v < m) (ht : t < 5) (hx : x < m) : STok (lnk st v t x) m := by
  intro a b ha hb
  rw [lnk_at st v t x a b ht hb]
  split
  · exact Or.inr ⟨v, hv, rfl⟩
  · split
    · exact Or.inr ⟨x, hx, rfl⟩
    · exact h a b ha hb
def abN (be le : Nat → Nat) (x w s t : Nat) (st : Nat → Int) : Nat → Int := if t = s then st else if oth st le (be (s * 5 + t)) w s t = -1 then st else lnk st (oth st le (be (s * 5 + t)) w s t).toNat t x
def abL (be le : Nat → Nat) (x w s : Nat) : Nat → Nat → (Nat → Int) → (Nat → Int)
  | 0, _, st => st
  | k + 1, t, st => abL be le x w s k (t + 1) (abN be le x w s t st)
/-- the steps behind a new element x = w with s behind it -/
def abS (be le : Nat → Nat) (rk x w s : Nat) (st : Nat → Int) : Nat → Int := abL be le x w s rk 0 (lnk (n5 st x) w s x)

set_option maxHeartbeats 2000000 in
set_option maxRecDepth 20000 in
theorem g_X1_addBehind_0 {G : GG} {j nw nx gn : Nat} {g : Nat → Sh} {c : Nat → Nat → Int} {post : Option AV → AM → Prop} {e : Nat} {w : Nat} {s : Nat} (he : e = 21 ∨ e = 35) {be : Nat → Nat} {le : Nat → Nat} {hd : Nat → Nat} {ls : Nat → Nat} {st : Nat → Int} {pr : Nat → Nat} {iv : Nat → Nat} {fa : Nat → Nat} {eb : Nat → Nat} {ml : Nat → Nat} {mf : Nat → Int} {rw : Nat → Nat} {dn : Nat → Nat} {rk : Nat} {mn : Nat} {mm : Nat}  (hv : (w < 60) ∧ (mn < 60) ∧ ((w < 60) ∧ (s < 5) ∧ (mn < 60) ∧ (SW G (j + 2) mX1_addBehind 21 [some (vr (e)), some (vi (((w : Nat) : Int))), some (vi (((s : Nat) : Int))), some (vi (((mn : Nat) : Int))), some (vi (0)), none] [] (S nw nx g, 78 + gn, (em c e be (uN le mn (le w + 1)) (uN hd mn w) (uN ls mn s) (lnk (n5 st mn) w s mn) pr iv fa eb ml mf rw dn rk (mn + 1) mm)) B0 post))) :
    SW G (j + 2) mX1_addBehind 0 [some (vr (e)), some (vi (((w : Nat) : Int))), some (vi (((s : Nat) : Int))), none, none, none] [] (S nw nx g, 78 + gn, (em c e be le hd ls st pr iv fa eb ml mf rw dn rk mn mm)) B0 post := by
  refine sw_aload_n (dX1_addBehind.at 0 rfl) rfl rfl ?_
  refine sw_getIE (w := ((mn : Nat) : Int)) (dX1_addBehind.at 1 rfl) fp_X1_59 (S_e_lt he) (S_e he) rfl em_f14 ?_
  refine sw_istore_n (lo' := [some (vr (e)), some (vi (((w : Nat) : Int))), some (vi (((s : Nat) : Int))), some (vi (((mn : Nat) : Int))), none, none]) (dX1_addBehind.at 2 rfl) rfl (by decide) rfl ?_
  refine sw_aload_n (dX1_addBehind.at 3 rfl) rfl rfl ?_
  refine sw_iload_n (dX1_addBehind.at 4 rfl) rfl rfl ?_
  refine sw_iload_n (dX1_addBehind.at 5 rfl) rfl rfl ?_
  refine sw_callV (B' := B0) (As := [vi (((w : Nat) : Int)), vi (((s : Nat) : Int))]) (mc := 0) (ms := 0) (dX1_addBehind.at 6 rfl) lk_X1_88 (S_e_lt he) (S_e he) rfl rfl (Nat.le_of_ble_eq_true rfl) rfl (Nat.le_refl _) (Nat.le_refl _) ?_
  refine c_X1_addElement (x := w) (s := s) (j := j + 1) he hv.1 hv.2.1 ?_
  replace hv := hv.2.2
  refine sw_aload_n (dX1_addBehind.at 7 rfl) rfl rfl ?_
  refine sw_iload_n (dX1_addBehind.at 8 rfl) rfl rfl ?_
  refine sw_iload_n (dX1_addBehind.at 9 rfl) rfl rfl ?_
  refine sw_iload_n (dX1_addBehind.at 10 rfl) rfl rfl ?_
  refine sw_callV (B' := B0) (As := [vi (((w : Nat) : Int)), vi (((s : Nat) : Int)), vi (((mn : Nat) : Int))]) (mc := 0) (ms := 0) (dX1_addBehind.at 11 rfl) lk_X1_99 (S_e_lt he) (S_e he) rfl rfl (Nat.le_of_ble_eq_true rfl) rfl (Nat.le_refl _) (Nat.le_refl _) ?_
  refine c_X1_link (x := w) (s := s) (y := mn) (j := j + 1) he hv.1 hv.2.1 hv.2.2.1 ?_
  replace hv := hv.2.2.2
  refine sw_iconst (dX1_addBehind.at 12 rfl) ?_
  refine sw_istore (lo' := [some (vr (e)), some (vi (((w : Nat) : Int))), some (vi (((s : Nat) : Int))), some (vi (((mn : Nat) : Int))), some (vi (0)), none]) (dX1_addBehind.at 13 rfl) (by decide) rfl ?_
  exact hv

set_option maxHeartbeats 2000000 in
set_option maxRecDepth 20000 in
theorem g_X1_addBehind_21 {G : GG} {j nw nx gn : Nat} {g : Nat → Sh} {c : Nat → Nat → Int} {post : Option AV → AM → Prop} {e : Nat} {w : Nat} {s : Nat} (he : e = 21 ∨ e = 35) {be : Nat → Nat} {le : Nat → Nat} {hd : Nat → Nat} {ls : Nat → Nat} {st : Nat → Int} {pr : Nat → Nat} {iv : Nat → Nat} {fa : Nat → Nat} {eb : Nat → Nat} {ml : Nat → Nat} {mf : Nat → Int} {rw : Nat → Nat} {dn : Nat → Nat} {rk : Nat} {mn : Nat} {mm : Nat} {xx : Nat} {u : Nat}  (hv : (u < 2147483648) ∧ (rk < 2147483648) ∧ (((rk ≤ u) → post none (S nw nx g, 78 + gn, (em c e be le hd ls st pr iv fa eb ml mf rw dn rk mn mm))) ∧ ((¬ (rk ≤ u)) → (u < 2147483648) ∧ (s < 2147483648) ∧ (((u ≠ s) → (STok st mn) ∧ (mn ≤ 60) ∧ (∀ x, x < mn → le x ≤ 100) ∧ (s < 5) ∧ (u < 5) ∧ (s ≠ u) ∧ (2 ≤ be (s * 5 + u) ∧ be (s * 5 + u) ≤ 12) ∧ (w < mn) ∧ ((oth st le (be (s * 5 + u)) w s u = -1) → SW G (j + 2) mX1_addBehind 21 [some (vr (e)), some (vi (((w : Nat) : Int))), some (vi (((s : Nat) : Int))), some (vi (((xx : Nat) : Int))), some (vi (((u + 1 : Nat) : Int))), none] [] (S nw nx g, 78 + gn, (em c e be le hd ls st pr iv fa eb ml mf rw dn rk mn mm)) B0 post) ∧ (∀ (v_1 : Nat), (oth st le (be (s * 5 + u)) w s u = ((v_1 : Nat) : Int) ∧ v_1 < mn) → (v_1 < 2147483648) ∧ (((((v_1 : Nat) : Int) = (-1)) → SW G (j + 2) mX1_addBehind 21 [some (vr (e)), some (vi (((w : Nat) : Int))), some (vi (((s : Nat) : Int))), some (vi (((xx : Nat) : Int))), some (vi (((u + 1 : Nat) : Int))), none] [] (S nw nx g, 78 + gn, (em c e be le hd ls st pr iv fa eb ml mf rw dn rk mn mm)) B0 post) ∧ ((¬ (((v_1 : Nat) : Int) = (-1))) → (v_1 < 60) ∧ (u < 5) ∧ (xx < 60) ∧ (SW G (j + 2) mX1_addBehind 21 [some (vr (e)), some (vi (((w : Nat) : Int))), some (vi (((s : Nat) : Int))), some (vi (((xx : Nat) : Int))), some (vi (((u + 1 : Nat) : Int))), none] [] (S nw nx g, 78 + gn, (em c e be le hd ls (lnk st v_1 u xx) pr iv fa eb ml mf rw dn rk mn mm)) B0 post))))) ∧ ((u = s) → SW G (j + 2) mX1_addBehind 21 [some (vr (e)), some (vi (((w : Nat) : Int))), some (vi (((s : Nat) : Int))), some (vi (((xx : Nat) : Int))), some (vi (((u + 1 : Nat) : Int))), none] [] (S nw nx g, 78 + gn, (em c e be le hd ls st pr iv fa eb ml mf rw dn rk mn mm)) B0 post))))) :
    SW G (j + 2) mX1_addBehind 21 [some (vr (e)), some (vi (((w : Nat) : Int))), some (vi (((s : Nat) : Int))), some (vi (((xx : Nat) : Int))), some (vi (((u : Nat) : Int))), none] [] (S nw nx g, 78 + gn, (em c e be le hd ls st pr iv fa eb ml mf rw dn rk mn mm)) B0 post := by
  refine sw_iload (dX1_addBehind.at 14 rfl) rfl ?_
  refine sw_aload_n (dX1_addBehind.at 15 rfl) rfl rfl ?_
  refine sw_getIE (w := ((rk : Nat) : Int)) (dX1_addBehind.at 16 rfl) fp_X1_58 (S_e_lt he) (S_e he) rfl em_f13 ?_
  refine sw_icmpN_ge u rk (tgt := 71) (dX1_addBehind.at 17 rfl) (by decide) hv.1 hv.2.1 (fun q => ?_) (fun q => ?_)
  · replace hv := hv.2.2.1 q
    exact sw_vret (dX1_addBehind.at 39 rfl) rfl (Nat.le_refl _) (Nat.le_refl _) hv
  · replace hv := hv.2.2.2 q
    refine sw_iload (dX1_addBehind.at 18 rfl) rfl ?_
    refine sw_iload_n (dX1_addBehind.at 19 rfl) rfl rfl ?_
    refine sw_icmpN_ne u s (tgt := 40) (dX1_addBehind.at 20 rfl) (by decide) hv.1 hv.2.1 (fun q => ?_) (fun q => ?_)
    · replace hv := hv.2.2.1 q
      refine sw_aload_n (dX1_addBehind.at 23 rfl) rfl rfl ?_
      refine sw_iload_n (dX1_addBehind.at 24 rfl) rfl rfl ?_
      refine sw_iload_n (dX1_addBehind.at 25 rfl) rfl rfl ?_
      refine sw_iload (dX1_addBehind.at 26 rfl) rfl ?_
      refine sw_callV (B' := B0) (As := [vi (((w : Nat) : Int)), vi (((s : Nat) : Int)), vi (((u : Nat) : Int))]) (mc := 0) (ms := 0) (dX1_addBehind.at 27 rfl) lk_X1_103 (S_e_lt he) (S_e he) rfl rfl (Nat.le_of_ble_eq_true rfl) rfl (Nat.le_refl _) (Nat.le_refl _) ?_
      refine c_X1_otherSide (w := w) (s := s) (t := u) (j := j + 0) he hv.1 hv.2.1 hv.2.2.1 hv.2.2.2.1 hv.2.2.2.2.1 hv.2.2.2.2.2.1 hv.2.2.2.2.2.2.1 hv.2.2.2.2.2.2.2.1 (fun q => ?_) (fun v_1 q2 => ?_) 
      · replace hv := hv.2.2.2.2.2.2.2.2.1 q
        refine sw_istore (lo' := [some (vr (e)), some (vi (((w : Nat) : Int))), some (vi (((s : Nat) : Int))), some (vi (((xx : Nat) : Int))), some (vi (((u : Nat) : Int))), some (vi ((-1)))]) (dX1_addBehind.at 28 rfl) (by decide) rfl ?_
        refine sw_iload (dX1_addBehind.at 29 rfl) rfl ?_
        refine sw_iconst (dX1_addBehind.at 30 rfl) ?_
        refine sw_icmp_eq (tgt := 65) (dX1_addBehind.at 31 rfl) (by decide) (by decide) (by decide) (fun q => ?_) (fun q => ?_)
        · clear q
          refine sw_iinc (lo' := [some (vr (e)), some (vi (((w : Nat) : Int))), some (vi (((s : Nat) : Int))), some (vi (((xx : Nat) : Int))), some (vi (((u + 1 : Nat) : Int))), some (vi ((-1)))]) (dX1_addBehind.at 37 rfl) rfl (by decide) rfl ?_
          refine sw_goto (tgt := 21) (dX1_addBehind.at 38 rfl) (by decide) ?_
          exact sw_mask (bs := [true, true, true, true, true, false]) hv
        · exact absurd q (by decide)
      · replace hv := hv.2.2.2.2.2.2.2.2.2 v_1 q2
        refine sw_istore (lo' := [some (vr (e)), some (vi (((w : Nat) : Int))), some (vi (((s : Nat) : Int))), some (vi (((xx : Nat) : Int))), some (vi (((u : Nat) : Int))), some (vi (((v_1 : Nat) : Int)))]) (dX1_addBehind.at 28 rfl) (by decide) rfl ?_
        refine sw_iload (dX1_addBehind.at 29 rfl) rfl ?_
        refine sw_iconst (dX1_addBehind.at 30 rfl) ?_
        refine sw_icmp_eq (tgt := 65) (dX1_addBehind.at 31 rfl) (by decide) (nrng hv.1) (by decide) (fun q => ?_) (fun q => ?_)
        · replace hv := hv.2.1 q
          refine sw_iinc (lo' := [some (vr (e)), some (vi (((w : Nat) : Int))), some (vi (((s : Nat) : Int))), some (vi (((xx : Nat) : Int))), some (vi (((u + 1 : Nat) : Int))), some (vi (((v_1 : Nat) : Int)))]) (dX1_addBehind.at 37 rfl) rfl (by decide) rfl ?_
          refine sw_goto (tgt := 21) (dX1_addBehind.at 38 rfl) (by decide) ?_
          exact sw_mask (bs := [true, true, true, true, true, false]) hv
        · replace hv := hv.2.2 q
          refine sw_aload_n (dX1_addBehind.at 32 rfl) rfl rfl ?_
          refine sw_iload (dX1_addBehind.at 33 rfl) rfl ?_
          refine sw_iload (dX1_addBehind.at 34 rfl) rfl ?_
          refine sw_iload_n (dX1_addBehind.at 35 rfl) rfl rfl ?_
          refine sw_callV (B' := B0) (As := [vi (((v_1 : Nat) : Int)), vi (((u : Nat) : Int)), vi (((xx : Nat) : Int))]) (mc := 0) (ms := 0) (dX1_addBehind.at 36 rfl) lk_X1_99 (S_e_lt he) (S_e he) rfl rfl (Nat.le_of_ble_eq_true rfl) rfl (Nat.le_refl _) (Nat.le_refl _) ?_
          refine c_X1_link (x := v_1) (s := u) (y := xx) (j := j + 1) he hv.1 hv.2.1 hv.2.2.1 ?_
          replace hv := hv.2.2.2
          refine sw_iinc (lo' := [some (vr (e)), some (vi (((w : Nat) : Int))), some (vi (((s : Nat) : Int))), some (vi (((xx : Nat) : Int))), some (vi (((u + 1 : Nat) : Int))), some (vi (((v_1 : Nat) : Int)))]) (dX1_addBehind.at 37 rfl) rfl (by decide) rfl ?_
          refine sw_goto (tgt := 21) (dX1_addBehind.at 38 rfl) (by decide) ?_
          exact sw_mask (bs := [true, true, true, true, true, false]) hv
    · replace hv := hv.2.2.2 q
      refine sw_iconst (dX1_addBehind.at 21 rfl) ?_
      refine sw_goto (tgt := 48) (dX1_addBehind.at 22 rfl) (by decide) ?_
      refine sw_istore (lo' := [some (vr (e)), some (vi (((w : Nat) : Int))), some (vi (((s : Nat) : Int))), some (vi (((xx : Nat) : Int))), some (vi (((u : Nat) : Int))), some (vi ((-1)))]) (dX1_addBehind.at 28 rfl) (by decide) rfl ?_
      refine sw_iload (dX1_addBehind.at 29 rfl) rfl ?_
      refine sw_iconst (dX1_addBehind.at 30 rfl) ?_
      refine sw_icmp_eq (tgt := 65) (dX1_addBehind.at 31 rfl) (by decide) (by decide) (by decide) (fun q => ?_) (fun q => ?_)
      · clear q
        refine sw_iinc (lo' := [some (vr (e)), some (vi (((w : Nat) : Int))), some (vi (((s : Nat) : Int))), some (vi (((xx : Nat) : Int))), some (vi (((u + 1 : Nat) : Int))), some (vi ((-1)))]) (dX1_addBehind.at 37 rfl) rfl (by decide) rfl ?_
        refine sw_goto (tgt := 21) (dX1_addBehind.at 38 rfl) (by decide) ?_
        exact sw_mask (bs := [true, true, true, true, true, false]) hv
      · exact absurd q (by decide)

set_option maxHeartbeats 8000000 in
theorem lp_X1_addBehind_21 {G : GG} {j nw nx gn : Nat} {g : Nat → Sh} {c : Nat → Nat → Int} {post : Option AV → AM → Prop} {e w s xx : Nat} {be : Nat → Nat} {le : Nat → Nat} {hd : Nat → Nat} {ls : Nat → Nat} {st : Nat → Int} {pr : Nat → Nat} {iv : Nat → Nat} {fa : Nat → Nat} {eb : Nat → Nat} {ml : Nat → Nat} {mf : Nat → Int} {rw : Nat → Nat} {dn : Nat → Nat} {rk : Nat} {mn : Nat} {mm : Nat} (he : e = 21 ∨ e = 35) (hrk : rk ≤ 5) (hbe : ∀ s t, s < rk → t < rk → s ≠ t → 2 ≤ be (s * 5 + t) ∧ be (s * 5 + t) ≤ 12) (hmn : mn ≤ 60) (hw : w < mn) (hs : s < rk) (hx : xx < mn) (hle : ∀ x, x < mn → le x ≤ 100) : ∀ (k u : Nat) (st : Nat → Int), u + k = rk → STok st mn → post none (S nw nx g, 78 + gn, (em c e be le hd ls (abL be le xx w s k u st) pr iv fa eb ml mf rw dn rk mn mm)) → SW G (j + 2) mX1_addBehind 21 [some (vr (e)), some (vi (((w : Nat) : Int))), some (vi (((s : Nat) : Int))), some (vi (((xx : Nat) : Int))), some (vi (((u : Nat) : Int))), none] [] (S nw nx g, 78 + gn, (em c e be le hd ls st pr iv fa eb ml mf rw dn rk mn mm)) B0 post := by
  intro k
  induction k with
  | zero =>
    intro u st hu h K
    refine g_X1_addBehind_21 he ?_
    refine ⟨?_, ?_, ⟨fun q => ?_, fun q => ⟨?_, ?_, ⟨fun q => ⟨?_, ?_, ?_, ?_, ?_, ?_, ?_, ?_, fun q => ?_, fun v_1 => fun q => ⟨?_, ⟨fun q => ?_, fun q => ⟨?_, ?_, ?_, ?_⟩⟩⟩⟩, fun q => ?_⟩⟩⟩⟩
    all_goals first | omega | exact K | (exfalso; omega)
  | succ k ih =>
    intro u st hu h K
    simp only [abL] at K
    refine g_X1_addBehind_21 he ?_
    by_cases e1 : u = s
    · have e2 : abN be le xx w s u st = st := by rw [abN, if_pos e1]
      rw [e2] at K
      refine ⟨?_, ?_, ⟨fun q => ?_, fun q => ⟨?_, ?_, ⟨fun q => ⟨?_, ?_, ?_, ?_, ?_, ?_, ?_, ?_, fun q => ?_, fun v_1 => fun q => ⟨?_, ⟨fun q => ?_, fun q => ⟨?_, ?_, ?_, ?_⟩⟩⟩⟩, fun q => ?_⟩⟩⟩⟩
      all_goals first | omega | assumption | (exfalso; omega) | exact ih _ _ (by omega) h K
    · have hb := hbe s u hs (by omega) (by omega)
      by_cases e2 : oth st le (be (s * 5 + u)) w s u = -1
      · have e3 : abN be le xx w s u st = st := by rw [abN, if_neg e1, if_pos e2]
        rw [e3] at K
        refine ⟨?_, ?_, ⟨fun q => ?_, fun q => ⟨?_, ?_, ⟨fun q => ⟨?_, ?_, ?_, ?_, ?_, ?_, ?_, ?_, fun q => ?_, fun v_1 => fun q => ⟨?_, ⟨fun q => ?_, fun q => ⟨?_, ?_, ?_, ?_⟩⟩⟩⟩, fun q => ?_⟩⟩⟩⟩
        all_goals first | omega | assumption | (exfalso; omega) | exact ih _ _ (by omega) h K
      · have e3 : abN be le xx w s u st = lnk st (oth st le (be (s * 5 + u)) w s u).toNat u xx := by rw [abN, if_neg e1, if_neg e2]
        rw [e3] at K
        refine ⟨?_, ?_, ⟨fun q => ?_, fun q => ⟨?_, ?_, ⟨fun q => ⟨?_, ?_, ?_, ?_, ?_, ?_, ?_, ?_, fun q => ?_, fun v_1 => fun q => ⟨?_, ⟨fun q => ?_, fun q => ⟨?_, ?_, ?_, ?_⟩⟩⟩⟩, fun q => ?_⟩⟩⟩⟩
        all_goals first | omega | assumption | (exfalso; omega) | (rename_i q9; rw [q9.1, Int.toNat_natCast] at K; exact ih _ _ (by omega) (STok_lnk h q9.2 (by omega) hx) K) | (rw [q.1, Int.toNat_natCast] at K; exact ih _ _ (by omega) (STok_lnk h q.2 (by omega) hx) K) | (rw [q2.1, Int.toNat_natCast] at K; exact ih _ _ (by omega) (STok_lnk h q2.2 (by omega) hx) K)
theorem c_X1_addBehind {G : GG} {j nw nx gn : Nat} {g : Nat → Sh} {c : Nat → Nat → Int} {post : Option AV → AM → Prop} {e w s : Nat} {be : Nat → Nat} {le : Nat → Nat} {hd : Nat → Nat} {ls : Nat → Nat} {st : Nat → Int} {pr : Nat → Nat} {iv : Nat → Nat} {fa : Nat → Nat} {eb : Nat → Nat} {ml : Nat → Nat} {mf : Nat → Int} {rw : Nat → Nat} {dn : Nat → Nat} {rk : Nat} {mn : Nat} {mm : Nat} (he : e = 21 ∨ e = 35) (hrk : rk ≤ 5) (hbe : ∀ s t, s < rk → t < rk → s ≠ t → 2 ≤ be (s * 5 + t) ∧ be (s * 5 + t) ≤ 12) (hmn : mn < 60) (hw : w < mn) (hs : s < rk) (hle : ∀ x, x < mn → le x ≤ x) (hst : STok st mn) (K : post none (S nw nx g, 78 + gn, (em c e be (uN le mn (le w + 1)) (uN hd mn w) (uN ls mn s) (abS be (uN le mn (le w + 1)) rk mn w s st) pr iv fa eb ml mf rw dn rk (mn + 1) mm))) : SM G (j + 3) mX1_addBehind [vr (e), vi (((w : Nat) : Int)), vi (((s : Nat) : Int))] (S nw nx g, 78 + gn, (em c e be le hd ls st pr iv fa eb ml mf rw dn rk mn mm)) 0 0 post := by
  refine sm_of wX1_addBehind rfl (Nat.le_of_ble_eq_true rfl) ?_
  have hl2 : ∀ x, x < mn + 1 → (uN le mn (le w + 1)) x ≤ 100 := by
    intro x hx
    rw [uN]
    split
    · have := hle w hw; omega
    · have := hle x (by omega); omega
  refine g_X1_addBehind_0 he ?_
  refine ⟨?_, ?_, ⟨?_, ?_, ?_, ?_⟩⟩
  all_goals first | omega | skip
  exact lp_X1_addBehind_21 (st := st) he hrk hbe (by omega) (by omega) hs (by omega) hl2 rk 0 _ (by omega) (STok_lnk (STok_n5 hst) (by omega) (by omega) (by omega)) K

set_option maxHeartbeats 2000000 in
set_option maxRecDepth 20000 in
theorem g_X1_findAll_0 {G : GG} {j nw nx gn : Nat} {g : Nat → Sh} {c : Nat → Nat → Int} {post : Option AV → AM → Prop} {e : Nat} (he : e = 21 ∨ e = 35) {be : Nat → Nat} {le : Nat → Nat} {hd : Nat → Nat} {ls : Nat → Nat} {st : Nat → Int} {pr : Nat → Nat} {iv : Nat → Nat} {fa : Nat → Nat} {eb : Nat → Nat} {ml : Nat → Nat} {mf : Nat → Int} {rw : Nat → Nat} {dn : Nat → Nat} {rk : Nat} {mm : Nat}  (hv : (0 < 60) ∧ (0 < 60) ∧ (SW G (j + 3) mX1_findAll 15 [some (vr (e)), some (vi (0)), none] [] (S nw nx g, 78 + gn, (em c e be (uN (uN le 0 (le 0 + 1)) 0 0) (uN hd 0 0) (uN ls 0 0) (n5 st 0) pr iv fa eb ml mf rw dn rk (0 + 1) mm)) B0 post)) :
    SW G (j + 3) mX1_findAll 0 [some (vr (e)), none, none] [] (S nw nx g, 78 + gn, (em c e be le hd ls st pr iv fa eb ml mf rw dn rk 0 mm)) B0 post := by
  refine sw_aload_n (dX1_findAll.at 0 rfl) rfl rfl ?_
  refine sw_iconst (dX1_findAll.at 1 rfl) ?_
  refine sw_iconst (dX1_findAll.at 2 rfl) ?_
  refine sw_callV (B' := B0) (As := [vi (0), vi (0)]) (mc := 0) (ms := 0) (dX1_findAll.at 3 rfl) lk_X1_88 (S_e_lt he) (S_e he) rfl rfl (Nat.le_of_ble_eq_true rfl) rfl (Nat.le_refl _) (Nat.le_refl _) ?_
  refine c_X1_addElement (x := 0) (s := 0) (j := j + 2) he hv.1 hv.2.1 ?_
  replace hv := hv.2.2
  refine sw_aload_n (dX1_findAll.at 4 rfl) rfl rfl ?_
  refine sw_getR (dX1_findAll.at 5 rfl) fp_X1_15 (S_e_lt he) (S_e he) rfl rfl ?_
  refine sw_iconst (dX1_findAll.at 6 rfl) ?_
  refine sw_iconst (dX1_findAll.at 7 rfl) ?_
  refine sw_iastN 0 (dX1_findAll.at 8 rfl) (S_ek_lt he (by decide)) (S_e_2 he) (by decide) (by decide) ?_
  refine SW.cg (M' := (S nw nx g, 78 + gn, (em c e be (uN (uN le 0 (le 0 + 1)) 0 0) (uN hd 0 0) (uN ls 0 0) (n5 st 0) pr iv fa eb ml mf rw dn rk (0 + 1) mm))) (congrArg (fun m => (S nw nx g, 78 + gn, m)) em_w2) ?_
  refine sw_iconst (dX1_findAll.at 9 rfl) ?_
  refine sw_istore_n (lo' := [some (vr (e)), some (vi (0)), none]) (dX1_findAll.at 10 rfl) rfl (by decide) rfl ?_
  exact hv

set_option maxHeartbeats 2000000 in
set_option maxRecDepth 20000 in
theorem g_X1_findAll_15 {G : GG} {j nw nx gn : Nat} {g : Nat → Sh} {c : Nat → Nat → Int} {post : Option AV → AM → Prop} {e : Nat} (he : e = 21 ∨ e = 35) {be : Nat → Nat} {le : Nat → Nat} {hd : Nat → Nat} {ls : Nat → Nat} {st : Nat → Int} {pr : Nat → Nat} {iv : Nat → Nat} {fa : Nat → Nat} {eb : Nat → Nat} {ml : Nat → Nat} {mf : Nat → Int} {rw : Nat → Nat} {dn : Nat → Nat} {rk : Nat} {mn : Nat} {mm : Nat} {ww : Nat}  (hv : (ww < 2147483648) ∧ (((60 ≤ ww) → post (some (vi (1))) (S nw nx g, 78 + gn, (em c e be le hd ls st pr iv fa eb ml mf rw dn rk mn mm))) ∧ ((¬ (60 ≤ ww)) → (ww < 2147483648) ∧ (mn < 2147483648) ∧ (((mn ≤ ww) → post (some (vi (1))) (S nw nx g, 78 + gn, (em c e be le hd ls st pr iv fa eb ml mf rw dn rk mn mm))) ∧ ((¬ (mn ≤ ww)) → SW G (j + 3) mX1_findAll 31 [some (vr (e)), some (vi (((ww : Nat) : Int))), some (vi (0))] [] (S nw nx g, 78 + gn, (em c e be le hd ls st pr iv fa eb ml mf rw dn rk mn mm)) B0 post))))) :
    SW G (j + 3) mX1_findAll 15 [some (vr (e)), some (vi (((ww : Nat) : Int))), none] [] (S nw nx g, 78 + gn, (em c e be le hd ls st pr iv fa eb ml mf rw dn rk mn mm)) B0 post := by
  refine sw_iload_n (dX1_findAll.at 11 rfl) rfl rfl ?_
  refine sw_bipush (dX1_findAll.at 12 rfl) (by decide) ?_
  refine sw_icmpN_ge ww 60 (tgt := 78) (dX1_findAll.at 13 rfl) (by decide) hv.1 (by decide) (fun q => ?_) (fun q => ?_)
  · replace hv := hv.2.1 q
    refine sw_iconst (dX1_findAll.at 44 rfl) ?_
    exact sw_zret (dX1_findAll.at 45 rfl) rfl (by decide) (Nat.le_refl _) (Nat.le_refl _) hv
  · replace hv := hv.2.2 q
    refine sw_iload_n (dX1_findAll.at 14 rfl) rfl rfl ?_
    refine sw_aload_n (dX1_findAll.at 15 rfl) rfl rfl ?_
    refine sw_getIE (w := ((mn : Nat) : Int)) (dX1_findAll.at 16 rfl) fp_X1_59 (S_e_lt he) (S_e he) rfl em_f14 ?_
    refine sw_icmpN_ge ww mn (tgt := 78) (dX1_findAll.at 17 rfl) (by decide) hv.1 hv.2.1 (fun q => ?_) (fun q => ?_)
    · replace hv := hv.2.2.1 q
      refine sw_iconst (dX1_findAll.at 44 rfl) ?_
      exact sw_zret (dX1_findAll.at 45 rfl) rfl (by decide) (Nat.le_refl _) (Nat.le_refl _) hv
    · replace hv := hv.2.2.2 q
      refine sw_iconst (dX1_findAll.at 18 rfl) ?_
      refine sw_istore_n (lo' := [some (vr (e)), some (vi (((ww : Nat) : Int))), some (vi (0))]) (dX1_findAll.at 19 rfl) rfl (by decide) rfl ?_
      exact hv

set_option maxHeartbeats 2000000 in
set_option maxRecDepth 20000 in
theorem g_X1_findAll_31 {G : GG} {j nw nx gn : Nat} {g : Nat → Sh} {c : Nat → Nat → Int} {post : Option AV → AM → Prop} {e : Nat} (he : e = 21 ∨ e = 35) {be : Nat → Nat} {le : Nat → Nat} {hd : Nat → Nat} {ls : Nat → Nat} {st : Nat → Int} {pr : Nat → Nat} {iv : Nat → Nat} {fa : Nat → Nat} {eb : Nat → Nat} {ml : Nat → Nat} {mf : Nat → Int} {rw : Nat → Nat} {dn : Nat → Nat} {rk : Nat} {mn : Nat} {mm : Nat} {ww : Nat} {ss : Nat}  (hv : (ss < 2147483648) ∧ (rk < 2147483648) ∧ (((rk ≤ ss) → SW G (j + 3) mX1_findAll 15 [some (vr (e)), some (vi (((ww + 1 : Nat) : Int))), none] [] (S nw nx g, 78 + gn, (em c e be le hd ls st pr iv fa eb ml mf rw dn rk mn mm)) B0 post) ∧ ((¬ (rk ≤ ss)) → (STok st mn) ∧ (mn ≤ 60) ∧ (ww < mn) ∧ (ss < 5) ∧ ((st (ww * 5 + ss) = -1) → (mn < 2147483648) ∧ (((mn ≠ 60) → (rk ≤ 5) ∧ (∀ s t, s < rk → t < rk → s ≠ t → 2 ≤ be (s * 5 + t) ∧ be (s * 5 + t) ≤ 12) ∧ (mn < 60) ∧ (ww < mn) ∧ (ss < rk) ∧ (∀ x, x < mn → le x ≤ x) ∧ (STok st mn) ∧ (SW G (j + 3) mX1_findAll 31 [some (vr (e)), some (vi (((ww : Nat) : Int))), some (vi (((ss + 1 : Nat) : Int)))] [] (S nw nx g, 78 + gn, (em c e be (uN le mn (le ww + 1)) (uN hd mn ww) (uN ls mn ss) (abS be (uN le mn (le ww + 1)) rk mn ww ss st) pr iv fa eb ml mf rw dn rk (mn + 1) mm)) B0 post)) ∧ ((mn = 60) → post (some (vi (0))) (S nw nx g, 78 + gn, (em c e be le hd ls st pr iv fa eb ml mf rw dn rk mn mm))))) ∧ (∀ (v_1 : Nat), (st (ww * 5 + ss) = ((v_1 : Nat) : Int) ∧ v_1 < mn) → (v_1 < 2147483648) ∧ (((((v_1 : Nat) : Int) ≠ (-1)) → SW G (j + 3) mX1_findAll 31 [some (vr (e)), some (vi (((ww : Nat) : Int))), some (vi (((ss + 1 : Nat) : Int)))] [] (S nw nx g, 78 + gn, (em c e be le hd ls st pr iv fa eb ml mf rw dn rk mn mm)) B0 post) ∧ ((((v_1 : Nat) : Int) = (-1)) → (mn < 2147483648) ∧ (((mn ≠ 60) → (rk ≤ 5) ∧ (∀ s t, s < rk → t < rk → s ≠ t → 2 ≤ be (s * 5 + t) ∧ be (s * 5 + t) ≤ 12) ∧ (mn < 60) ∧ (ww < mn) ∧ (ss < rk) ∧ (∀ x, x < mn → le x ≤ x) ∧ (STok st mn) ∧ (SW G (j + 3) mX1_findAll 31 [some (vr (e)), some (vi (((ww : Nat) : Int))), some (vi (((ss + 1 : Nat) : Int)))] [] (S nw nx g, 78 + gn, (em c e be (uN le mn (le ww + 1)) (uN hd mn ww) (uN ls mn ss) (abS be (uN le mn (le ww + 1)) rk mn ww ss st) pr iv fa eb ml mf rw dn rk (mn + 1) mm)) B0 post)) ∧ ((mn = 60) → post (some (vi (0))) (S nw nx g, 78 + gn, (em c e be le hd ls st pr iv fa eb ml mf rw dn rk mn mm)))))))))) :
    SW G (j + 3) mX1_findAll 31 [some (vr (e)), some (vi (((ww : Nat) : Int))), some (vi (((ss : Nat) : Int)))] [] (S nw nx g, 78 + gn, (em c e be le hd ls st pr iv fa eb ml mf rw dn rk mn mm)) B0 post := by
  refine sw_iload_n (dX1_findAll.at 20 rfl) rfl rfl ?_
  refine sw_aload_n (dX1_findAll.at 21 rfl) rfl rfl ?_
  refine sw_getIE (w := ((rk : Nat) : Int)) (dX1_findAll.at 22 rfl) fp_X1_58 (S_e_lt he) (S_e he) rfl em_f13 ?_
  refine sw_icmpN_ge ss rk (tgt := 72) (dX1_findAll.at 23 rfl) (by decide) hv.1 hv.2.1 (fun q => ?_) (fun q => ?_)
  · replace hv := hv.2.2.1 q
    refine sw_iinc (lo' := [some (vr (e)), some (vi (((ww + 1 : Nat) : Int))), some (vi (((ss : Nat) : Int)))]) (dX1_findAll.at 42 rfl) rfl (by decide) rfl ?_
    refine sw_goto (tgt := 15) (dX1_findAll.at 43 rfl) (by decide) ?_
    exact sw_mask (bs := [true, true, false]) hv
  · replace hv := hv.2.2.2 q
    refine sw_aload_n (dX1_findAll.at 24 rfl) rfl rfl ?_
    refine sw_iload_n (dX1_findAll.at 25 rfl) rfl rfl ?_
    refine sw_iload_n (dX1_findAll.at 26 rfl) rfl rfl ?_
    refine sw_callV (B' := B0) (As := [vi (((ww : Nat) : Int)), vi (((ss : Nat) : Int))]) (mc := 0) (ms := 0) (dX1_findAll.at 27 rfl) lk_X1_92 (S_e_lt he) (S_e he) rfl rfl (Nat.le_of_ble_eq_true rfl) rfl (Nat.le_refl _) (Nat.le_refl _) ?_
    refine c_X1_byE (x := ww) (s := ss) (j := j + 2) he hv.1 hv.2.1 hv.2.2.1 hv.2.2.2.1 (fun q => ?_) (fun v_1 q2 => ?_) 
    · replace hv := hv.2.2.2.2.1 q
      refine sw_iconst (dX1_findAll.at 28 rfl) ?_
      refine sw_icmp_ne (tgt := 66) (dX1_findAll.at 29 rfl) (by decide) (by decide) (by decide) (fun q => ?_) (fun q => ?_)
      · exact absurd q (by decide)
      · clear q
        refine sw_aload_n (dX1_findAll.at 30 rfl) rfl rfl ?_
        refine sw_getIE (w := ((mn : Nat) : Int)) (dX1_findAll.at 31 rfl) fp_X1_59 (S_e_lt he) (S_e he) rfl em_f14 ?_
        refine sw_bipush (dX1_findAll.at 32 rfl) (by decide) ?_
        refine sw_icmpN_ne mn 60 (tgt := 60) (dX1_findAll.at 33 rfl) (by decide) hv.1 (by decide) (fun q => ?_) (fun q => ?_)
        · replace hv := hv.2.1 q
          refine sw_aload_n (dX1_findAll.at 36 rfl) rfl rfl ?_
          refine sw_iload_n (dX1_findAll.at 37 rfl) rfl rfl ?_
          refine sw_iload_n (dX1_findAll.at 38 rfl) rfl rfl ?_
          refine sw_callV (B' := B0) (As := [vi (((ww : Nat) : Int)), vi (((ss : Nat) : Int))]) (mc := 0) (ms := 0) (dX1_findAll.at 39 rfl) lk_X1_96 (S_e_lt he) (S_e he) rfl rfl (Nat.le_of_ble_eq_true rfl) rfl (Nat.le_refl _) (Nat.le_refl _) ?_
          refine c_X1_addBehind (w := ww) (s := ss) (j := j + 0) he hv.1 hv.2.1 hv.2.2.1 hv.2.2.2.1 hv.2.2.2.2.1 hv.2.2.2.2.2.1 hv.2.2.2.2.2.2.1 ?_
          replace hv := hv.2.2.2.2.2.2.2
          refine sw_iinc (lo' := [some (vr (e)), some (vi (((ww : Nat) : Int))), some (vi (((ss + 1 : Nat) : Int)))]) (dX1_findAll.at 40 rfl) rfl (by decide) rfl ?_
          refine sw_goto (tgt := 31) (dX1_findAll.at 41 rfl) (by decide) ?_
          exact hv
        · replace hv := hv.2.2 q
          refine sw_iconst (dX1_findAll.at 34 rfl) ?_
          exact sw_zret (dX1_findAll.at 35 rfl) rfl (by decide) (Nat.le_refl _) (Nat.le_refl _) hv
    · replace hv := hv.2.2.2.2.2 v_1 q2
      refine sw_iconst (dX1_findAll.at 28 rfl) ?_
      refine sw_icmp_ne (tgt := 66) (dX1_findAll.at 29 rfl) (by decide) (nrng hv.1) (by decide) (fun q => ?_) (fun q => ?_)
      · replace hv := hv.2.1 q
        refine sw_iinc (lo' := [some (vr (e)), some (vi (((ww : Nat) : Int))), some (vi (((ss + 1 : Nat) : Int)))]) (dX1_findAll.at 40 rfl) rfl (by decide) rfl ?_
        refine sw_goto (tgt := 31) (dX1_findAll.at 41 rfl) (by decide) ?_
        exact hv
      · replace hv := hv.2.2 q
        refine sw_aload_n (dX1_findAll.at 30 rfl) rfl rfl ?_
        refine sw_getIE (w := ((mn : Nat) : Int)) (dX1_findAll.at 31 rfl) fp_X1_59 (S_e_lt he) (S_e he) rfl em_f14 ?_
        refine sw_bipush (dX1_findAll.at 32 rfl) (by decide) ?_
        refine sw_icmpN_ne mn 60 (tgt := 60) (dX1_findAll.at 33 rfl) (by decide) hv.1 (by decide) (fun q => ?_) (fun q => ?_)
        · replace hv := hv.2.1 q
          refine sw_aload_n (dX1_findAll.at 36 rfl) rfl rfl ?_
          refine sw_iload_n (dX1_findAll.at 37 rfl) rfl rfl ?_
          refine sw_iload_n (dX1_findAll.at 38 rfl) rfl rfl ?_
          refine sw_callV (B' := B0) (As := [vi (((ww : Nat) : Int)), vi (((ss : Nat) : Int))]) (mc := 0) (ms := 0) (dX1_findAll.at 39 rfl) lk_X1_96 (S_e_lt he) (S_e he) rfl rfl (Nat.le_of_ble_eq_true rfl) rfl (Nat.le_refl _) (Nat.le_refl _) ?_
          refine c_X1_addBehind (w := ww) (s := ss) (j := j + 0) he hv.1 hv.2.1 hv.2.2.1 hv.2.2.2.1 hv.2.2.2.2.1 hv.2.2.2.2.2.1 hv.2.2.2.2.2.2.1 ?_
          replace hv := hv.2.2.2.2.2.2.2
          refine sw_iinc (lo' := [some (vr (e)), some (vi (((ww : Nat) : Int))), some (vi (((ss + 1 : Nat) : Int)))]) (dX1_findAll.at 40 rfl) rfl (by decide) rfl ?_
          refine sw_goto (tgt := 31) (dX1_findAll.at 41 rfl) (by decide) ?_
          exact hv
        · replace hv := hv.2.2 q
          refine sw_iconst (dX1_findAll.at 34 rfl) ?_
          exact sw_zret (dX1_findAll.at 35 rfl) rfl (by decide) (Nat.le_refl _) (Nat.le_refl _) hv

/-- what every state of the search keeps -/
def BI (le : Nat → Nat) (st : Nat → Int) (mn : Nat) : Prop := 1 ≤ mn ∧ mn ≤ 60 ∧ STok st mn ∧ ∀ x, x < mn → le x ≤ x
theorem STok_abL {be le : Nat → Nat} {x w s m : Nat} (hx : x < m) (hv : ∀ (st : Nat → Int) t (v : Nat), STok st m → t < 5 → t ≠ s → oth st le (be (s * 5 + t)) w s t ≠ -1 → (oth st le (be (s * 5 + t)) w s t).toNat < m) : ∀ k t (st : Nat → Int), t + k ≤ 5 → STok st m → STok (abL be le x w s k t st) m := by
  intro k
  induction k with
  | zero => intro t st _ h; exact h
  | succ k ih =>
    intro t st ht h
    refine ih (t + 1) _ (by omega) ?_
    unfold abN
    split
    · exact h
    · split
      · exact h
      · rename_i a b
        exact STok_lnk h (hv st t 0 h (by omega) a b) (by omega) hx
theorem osU_lt {st : Nat → Int} {s t m : Nat} (h : STok st m) (hs : s < 5) (ht : t < 5) : ∀ k l x, (l = s ∨ l = t) → x < m → osU st s t k l x ≠ -1 → (osU st s t k l x).toNat < m := by
  intro k
  induction k with
  | zero => intro l x _ hx _; simpa [osU] using hx
  | succ k ih =>
    intro l x hl hx
    unfold osU
    rcases h x l hx (by omega) with e | ⟨v, a, b⟩
    · rw [if_pos e]; intro q; exact absurd rfl q
    · rw [if_neg (by omega), b, Int.toNat_natCast]
      exact ih _ v (by omega) a
theorem osD_lt {st : Nat → Int} {le : Nat → Nat} {s t m n : Nat} (h : STok st m) (hs : s < 5) (ht : t < 5) : ∀ k l x, (l = s ∨ l = t) → x < m → osD st le s t n k l x ≠ -1 → (osD st le s t n k l x).toNat < m := by
  intro k
  induction k with
  | zero => intro l x hl hx; exact osU_lt h hs ht n l x hl hx
  | succ k ih =>
    intro l x hl hx
    unfold osD
    rcases h x l hx (by omega) with e | ⟨v, a, b⟩
    · rw [if_pos e]; intro q; exact absurd rfl q
    · rw [if_neg (by omega), b, Int.toNat_natCast]
      split
      · intro q; exact absurd rfl q
      · exact ih _ v (by omega) a
theorem BI_add {be le : Nat → Nat} {st : Nat → Int} {rk mn w s : Nat} (h : BI le st mn) (hr : rk ≤ 5) (hm : mn < 60) (hw : w < mn) (hs : s < rk) : BI (uN le mn (le w + 1)) (abS be (uN le mn (le w + 1)) rk mn w s st) (mn + 1) := by
  refine ⟨by omega, by omega, ?_, fun x hx => ?_⟩
  · refine STok_abL (by omega) (fun st2 t _ h2 ht _ hne => ?_) rk 0 _ (by omega) (STok_lnk (STok_n5 h.2.2.1) (by omega) (by omega) (by omega))
    exact osD_lt h2 (by omega) ht _ _ _ (Or.inr rfl) (by omega) hne
  · rw [uN]
    split
    · have := h.2.2.2 w hw; omega
    · exact h.2.2.2 x (by omega)
set_option maxHeartbeats 8000000 in
theorem c_X1_findAll {G : GG} {j nw nx gn : Nat} {g : Nat → Sh} {c : Nat → Nat → Int} {post : Option AV → AM → Prop} {e : Nat} {be : Nat → Nat} {pr : Nat → Nat} {iv : Nat → Nat} {fa : Nat → Nat} {eb : Nat → Nat} {ml : Nat → Nat} {mf : Nat → Int} {rw : Nat → Nat} {dn : Nat → Nat} {rk : Nat} {mm : Nat} (I : (Nat → Nat) → (Nat → Nat) → (Nat → Nat) → (Nat → Int) → Nat → Nat → Nat → Prop) {le hd ls : Nat → Nat} {st : Nat → Int} (he : e = 21 ∨ e = 35) (hrk : rk ≤ 5) (hbe : ∀ s t, s < rk → t < rk → s ≠ t → 2 ≤ be (s * 5 + t) ∧ be (s * 5 + t) ≤ 12) 
    (I0 : ∀ (le hd ls : Nat → Nat) (st : Nat → Int), le 0 = 0 → hd 0 = 0 → ls 0 = 0 → (∀ s, s < 5 → st (0 * 5 + s) = -1) → I le hd ls st 1 0 0)
    (I1 : ∀ (le hd ls : Nat → Nat) (st : Nat → Int) (mn : Nat) (w s : Nat), I le hd ls st mn w s → BI le st mn → w < mn → s < rk → st (w * 5 + s) ≠ -1 → I le hd ls st mn w (s + 1))
    (I2 : ∀ (le hd ls : Nat → Nat) (st : Nat → Int) (mn : Nat) (w s : Nat), I le hd ls st mn w s → BI le st mn → mn < 60 → w < mn → s < rk → st (w * 5 + s) = -1 → I (uN le mn (le w + 1)) (uN hd mn w) (uN ls mn s) (abS be (uN le mn (le w + 1)) rk mn w s st) (mn + 1) w (s + 1))
    (I3 : ∀ (le hd ls : Nat → Nat) (st : Nat → Int) (mn : Nat) (w : Nat), I le hd ls st mn w rk → I le hd ls st mn (w + 1) 0)
    (K0 : ∀ (le hd ls : Nat → Nat) (st : Nat → Int) (mn : Nat) (w s : Nat), I le hd ls st mn w s → mn = 60 → w < mn → s < rk → st (w * 5 + s) = -1 → post (some (vi 0)) (S nw nx g, 78 + gn, (em c e be le hd ls st pr iv fa eb ml mf rw dn rk mn mm)))
    (K1 : ∀ (le hd ls : Nat → Nat) (st : Nat → Int) (mn : Nat) (w : Nat), I le hd ls st mn w 0 → BI le st mn → mn ≤ w → post (some (vi 1)) (S nw nx g, 78 + gn, (em c e be le hd ls st pr iv fa eb ml mf rw dn rk mn mm))) : SM G (j + 4) mX1_findAll [vr (e)] (S nw nx g, 78 + gn, (em c e be le hd ls st pr iv fa eb ml mf rw dn rk 0 mm)) 0 0 post := by
  have L15 : ∀ (k ww : Nat) (le hd ls : Nat → Nat) (st : Nat → Int) (mn : Nat), ww + k = 61 → BI le st mn → ww ≤ mn → I le hd ls st mn ww 0 → SW G (j + 3) mX1_findAll 15 [some (vr (e)), some (vi (((ww : Nat) : Int))), none] [] (S nw nx g, 78 + gn, (em c e be le hd ls st pr iv fa eb ml mf rw dn rk mn mm)) B0 post := by
    intro k
    induction k with
    | zero => intro ww le hd ls st mn hk hB hw _; have := hB.2.1; exfalso; omega
    | succ k ih =>
      intro ww le hd ls st mn hk hB hw hI
      have hb2 := hB.2.1
      have L31 : ∀ (t ss : Nat) (le hd ls : Nat → Nat) (st : Nat → Int) (mn : Nat), ss + t = rk → ww < mn → BI le st mn → I le hd ls st mn ww ss → SW G (j + 3) mX1_findAll 31 [some (vr (e)), some (vi (((ww : Nat) : Int))), some (vi (((ss : Nat) : Int)))] [] (S nw nx g, 78 + gn, (em c e be le hd ls st pr iv fa eb ml mf rw dn rk mn mm)) B0 post := by
        intro t
        induction t with
        | zero =>
          intro ss le hd ls st mn hs hwm hB hI
          have e1 : ss = rk := by omega
          subst e1
          have hI3 := I3 _ _ _ _ _ _ hI
          refine g_X1_findAll_31 he ?_
          refine ⟨?_, ?_, ⟨fun q => ?_, fun q => ⟨?_, ?_, ?_, ?_, fun q => ⟨?_, ⟨fun q => ⟨?_, ?_, ?_, ?_, ?_, ?_, ?_, ?_⟩, fun q => ?_⟩⟩, fun v_1 => fun q => ⟨?_, ⟨fun q => ?_, fun q => ⟨?_, ⟨fun q => ⟨?_, ?_, ?_, ?_, ?_, ?_, ?_, ?_⟩, fun q => ?_⟩⟩⟩⟩⟩⟩⟩
          all_goals first | omega | (exfalso; omega) | exact ih _ _ _ _ _ _ (by omega) hB (by omega) hI3
        | succ t iht =>
          intro ss le hd ls st mn hs hwm hB hI
          have hb2 := hB.2.1
          refine g_X1_findAll_31 he ?_
          by_cases hc : st (ww * 5 + ss) = -1
          · by_cases hm : mn = 60
            · have K3 := K0 _ _ _ _ _ _ _ hI hm hwm (by omega) hc
              refine ⟨?_, ?_, ⟨fun q => ?_, fun q => ⟨?_, ?_, ?_, ?_, fun q => ⟨?_, ⟨fun q => ⟨?_, ?_, ?_, ?_, ?_, ?_, ?_, ?_⟩, fun q => ?_⟩⟩, fun v_1 => fun q => ⟨?_, ⟨fun q => ?_, fun q => ⟨?_, ⟨fun q => ⟨?_, ?_, ?_, ?_, ?_, ?_, ?_, ?_⟩, fun q => ?_⟩⟩⟩⟩⟩⟩⟩
              all_goals first | omega | exact hB.2.2.1 | exact hB.2.2.2 | exact hbe | (exfalso; omega) | exact K3
            · have hI2 := I2 _ _ _ _ _ _ _ hI hB (by omega) hwm (by omega) hc
              have hB2 := BI_add (be := be) hB hrk (by omega : mn < 60) hwm (by omega : ss < rk)
              refine ⟨?_, ?_, ⟨fun q => ?_, fun q => ⟨?_, ?_, ?_, ?_, fun q => ⟨?_, ⟨fun q => ⟨?_, ?_, ?_, ?_, ?_, ?_, ?_, ?_⟩, fun q => ?_⟩⟩, fun v_1 => fun q => ⟨?_, ⟨fun q => ?_, fun q => ⟨?_, ⟨fun q => ⟨?_, ?_, ?_, ?_, ?_, ?_, ?_, ?_⟩, fun q => ?_⟩⟩⟩⟩⟩⟩⟩
              all_goals first | omega | exact hB.2.2.1 | exact hB.2.2.2 | exact hbe | (exfalso; omega) | exact iht _ _ _ _ _ _ (by omega) (by omega) hB2 hI2
          · have hI1 := I1 _ _ _ _ _ _ _ hI hB hwm (by omega) hc
            refine ⟨?_, ?_, ⟨fun q => ?_, fun q => ⟨?_, ?_, ?_, ?_, fun q => ⟨?_, ⟨fun q => ⟨?_, ?_, ?_, ?_, ?_, ?_, ?_, ?_⟩, fun q => ?_⟩⟩, fun v_1 => fun q => ⟨?_, ⟨fun q => ?_, fun q => ⟨?_, ⟨fun q => ⟨?_, ?_, ?_, ?_, ?_, ?_, ?_, ?_⟩, fun q => ?_⟩⟩⟩⟩⟩⟩⟩
            all_goals first | omega | exact hB.2.2.1 | exact hB.2.2.2 | exact hbe | (exfalso; omega) | exact iht _ _ _ _ _ _ (by omega) (by omega) hB hI1
      refine g_X1_findAll_15 he ?_
      by_cases hc : ww = mn
      · have K3 := K1 _ _ _ _ _ _ hI hB (by omega)
        refine ⟨?_, ⟨fun q => ?_, fun q => ⟨?_, ?_, ⟨fun q => ?_, fun q => ?_⟩⟩⟩⟩
        all_goals first | omega | (exfalso; omega) | exact K3
      · refine ⟨?_, ⟨fun q => ?_, fun q => ⟨?_, ?_, ⟨fun q => ?_, fun q => ?_⟩⟩⟩⟩
        all_goals first | omega | (exfalso; omega) | exact L31 rk 0 _ _ _ _ _ (by omega) (by omega) hB hI
  refine sm_of wX1_findAll rfl (Nat.le_of_ble_eq_true rfl) ?_
  refine g_X1_findAll_0 he ?_
  refine ⟨?_, ?_, ?_⟩
  all_goals first | omega | decide | skip
  have hs0 : ∀ s, s < 5 → n5 st 0 (0 * 5 + s) = -1 := fun s hs => by rw [n5_at st 0 0 s hs, if_pos rfl]
  refine L15 61 0 _ _ _ _ _ rfl ⟨Nat.le_refl _, by decide, ?_, ?_⟩ (by decide) (I0 _ _ _ _ ?_ ?_ ?_ hs0)
  · intro x s hx hs
    have e0 : x = 0 := by omega
    subst e0
    exact Or.inl (hs0 s hs)
  · intro x hx
    have e0 : x = 0 := by omega
    subst e0
    simp [uN]
  · simp [uN]
  · simp [uN]
  · simp [uN]

