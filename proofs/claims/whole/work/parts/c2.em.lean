def em (c : Nat → Nat → Int) (e : Nat) (be : Nat → Nat) (le : Nat → Nat) (hd : Nat → Nat) (ls : Nat → Nat) (st : Nat → Int) (pr : Nat → Nat) (iv : Nat → Nat) (fa : Nat → Nat) (eb : Nat → Nat) (ml : Nat → Nat) (mf : Nat → Int) (rw : Nat → Nat) (dn : Nat → Nat) (rk : Nat) (mn : Nat) (mm : Nat) : Nat → Nat → Int := fun a i =>
  if a = e then (if i = 13 then (rk : Int) else if i = 14 then (mn : Int) else if i = 15 then (mm : Int) else c e i)
  else if a = e + 1 then ((be i : Nat) : Int) else if a = e + 2 then ((le i : Nat) : Int) else if a = e + 3 then ((hd i : Nat) : Int) else if a = e + 4 then ((ls i : Nat) : Int) else if a = e + 5 then st i else if a = e + 6 then ((pr i : Nat) : Int) else if a = e + 7 then ((iv i : Nat) : Int) else if a = e + 8 then ((fa i : Nat) : Int) else if a = e + 9 then ((eb i : Nat) : Int) else if a = e + 10 then ((ml i : Nat) : Int) else if a = e + 11 then mf i else if a = e + 12 then ((rw i : Nat) : Int) else if a = e + 13 then ((dn i : Nat) : Int) else c a i
section EMs
variable {c : Nat → Nat → Int} {e : Nat} {be : Nat → Nat} {le : Nat → Nat} {hd : Nat → Nat} {ls : Nat → Nat} {st : Nat → Int} {pr : Nat → Nat} {iv : Nat → Nat} {fa : Nat → Nat} {eb : Nat → Nat} {ml : Nat → Nat} {mf : Nat → Int} {rw : Nat → Nat} {dn : Nat → Nat} {rk : Nat} {mn : Nat} {mm : Nat} 
theorem em_f13 : em c e be le hd ls st pr iv fa eb ml mf rw dn rk mn mm e 13 = ((rk : Nat) : Int) := by simp [em]
theorem em_p13 {z : Nat} : up2 (em c e be le hd ls st pr iv fa eb ml mf rw dn rk mn mm) e 13 ((z : Nat) : Int) = em c e be le hd ls st pr iv fa eb ml mf rw dn z mn mm := by
  funext a i
  by_cases h1 : a = e
  · subst h1
    by_cases h2 : i = 13
    · subst h2; simp [up2, em]
    · simp [up2, em, h2]
  · simp [up2, h1, em]
theorem em_f14 : em c e be le hd ls st pr iv fa eb ml mf rw dn rk mn mm e 14 = ((mn : Nat) : Int) := by simp [em]
theorem em_p14 {z : Nat} : up2 (em c e be le hd ls st pr iv fa eb ml mf rw dn rk mn mm) e 14 ((z : Nat) : Int) = em c e be le hd ls st pr iv fa eb ml mf rw dn rk z mm := by
  funext a i
  by_cases h1 : a = e
  · subst h1
    by_cases h2 : i = 14
    · subst h2; simp [up2, em]
    · simp [up2, em, h2]
  · simp [up2, h1, em]
theorem em_f15 : em c e be le hd ls st pr iv fa eb ml mf rw dn rk mn mm e 15 = ((mm : Nat) : Int) := by simp [em]
theorem em_p15 {z : Nat} : up2 (em c e be le hd ls st pr iv fa eb ml mf rw dn rk mn mm) e 15 ((z : Nat) : Int) = em c e be le hd ls st pr iv fa eb ml mf rw dn rk mn z := by
  funext a i
  by_cases h1 : a = e
  · subst h1
    by_cases h2 : i = 15
    · subst h2; simp [up2, em]
    · simp [up2, em, h2]
  · simp [up2, h1, em]
theorem em_r1 {x : Nat} : em c e be le hd ls st pr iv fa eb ml mf rw dn rk mn mm (e + 1) x = ((be x : Nat) : Int) := by simp [em]
theorem em_w1 {k : Nat} {v : Nat} : up2 (em c e be le hd ls st pr iv fa eb ml mf rw dn rk mn mm) (e + 1) k ((v : Nat) : Int) = em c e (uN be k v) le hd ls st pr iv fa eb ml mf rw dn rk mn mm := by
  funext a i
  by_cases h1 : a = e + 1
  · subst h1
    by_cases h2 : i = k
    · subst h2; simp [up2, em, uN]
    · simp [up2, em, h2, uN]
  · simp [up2, h1, em]
theorem em_r2 {x : Nat} : em c e be le hd ls st pr iv fa eb ml mf rw dn rk mn mm (e + 2) x = ((le x : Nat) : Int) := by simp [em]
theorem em_w2 {k : Nat} {v : Nat} : up2 (em c e be le hd ls st pr iv fa eb ml mf rw dn rk mn mm) (e + 2) k ((v : Nat) : Int) = em c e be (uN le k v) hd ls st pr iv fa eb ml mf rw dn rk mn mm := by
  funext a i
  by_cases h1 : a = e + 2
  · subst h1
    by_cases h2 : i = k
    · subst h2; simp [up2, em, uN]
    · simp [up2, em, h2, uN]
  · simp [up2, h1, em]
theorem em_r3 {x : Nat} : em c e be le hd ls st pr iv fa eb ml mf rw dn rk mn mm (e + 3) x = ((hd x : Nat) : Int) := by simp [em]
theorem em_w3 {k : Nat} {v : Nat} : up2 (em c e be le hd ls st pr iv fa eb ml mf rw dn rk mn mm) (e + 3) k ((v : Nat) : Int) = em c e be le (uN hd k v) ls st pr iv fa eb ml mf rw dn rk mn mm := by
  funext a i
  by_cases h1 : a = e + 3
  · subst h1
    by_cases h2 : i = k
    · subst h2; simp [up2, em, uN]
    · simp [up2, em, h2, uN]
  · simp [up2, h1, em]
theorem em_r4 {x : Nat} : em c e be le hd ls st pr iv fa eb ml mf rw dn rk mn mm (e + 4) x = ((ls x : Nat) : Int) := by simp [em]
theorem em_w4 {k : Nat} {v : Nat} : up2 (em c e be le hd ls st pr iv fa eb ml mf rw dn rk mn mm) (e + 4) k ((v : Nat) : Int) = em c e be le hd (uN ls k v) st pr iv fa eb ml mf rw dn rk mn mm := by
  funext a i
  by_cases h1 : a = e + 4
  · subst h1
    by_cases h2 : i = k
    · subst h2; simp [up2, em, uN]
    · simp [up2, em, h2, uN]
  · simp [up2, h1, em]
theorem em_r5 {x : Nat} : em c e be le hd ls st pr iv fa eb ml mf rw dn rk mn mm (e + 5) x = st x := by simp [em]
theorem em_w5 {k : Nat} {v : Int} : up2 (em c e be le hd ls st pr iv fa eb ml mf rw dn rk mn mm) (e + 5) k v = em c e be le hd ls (u1 st k v) pr iv fa eb ml mf rw dn rk mn mm := by
  funext a i
  by_cases h1 : a = e + 5
  · subst h1
    by_cases h2 : i = k
    · subst h2; simp [up2, em, u1]
    · simp [up2, em, h2, u1]
  · simp [up2, h1, em]
theorem em_r6 {x : Nat} : em c e be le hd ls st pr iv fa eb ml mf rw dn rk mn mm (e + 6) x = ((pr x : Nat) : Int) := by simp [em]
theorem em_w6 {k : Nat} {v : Nat} : up2 (em c e be le hd ls st pr iv fa eb ml mf rw dn rk mn mm) (e + 6) k ((v : Nat) : Int) = em c e be le hd ls st (uN pr k v) iv fa eb ml mf rw dn rk mn mm := by
  funext a i
  by_cases h1 : a = e + 6
  · subst h1
    by_cases h2 : i = k
    · subst h2; simp [up2, em, uN]
    · simp [up2, em, h2, uN]
  · simp [up2, h1, em]
theorem em_r7 {x : Nat} : em c e be le hd ls st pr iv fa eb ml mf rw dn rk mn mm (e + 7) x = ((iv x : Nat) : Int) := by simp [em]
theorem em_w7 {k : Nat} {v : Nat} : up2 (em c e be le hd ls st pr iv fa eb ml mf rw dn rk mn mm) (e + 7) k ((v : Nat) : Int) = em c e be le hd ls st pr (uN iv k v) fa eb ml mf rw dn rk mn mm := by
  funext a i
  by_cases h1 : a = e + 7
  · subst h1
    by_cases h2 : i = k
    · subst h2; simp [up2, em, uN]
    · simp [up2, em, h2, uN]
  · simp [up2, h1, em]
theorem em_r8 {x : Nat} : em c e be le hd ls st pr iv fa eb ml mf rw dn rk mn mm (e + 8) x = ((fa x : Nat) : Int) := by simp [em]
theorem em_w8 {k : Nat} {v : Nat} : up2 (em c e be le hd ls st pr iv fa eb ml mf rw dn rk mn mm) (e + 8) k ((v : Nat) : Int) = em c e be le hd ls st pr iv (uN fa k v) eb ml mf rw dn rk mn mm := by
  funext a i
  by_cases h1 : a = e + 8
  · subst h1
    by_cases h2 : i = k
    · subst h2; simp [up2, em, uN]
    · simp [up2, em, h2, uN]
  · simp [up2, h1, em]
theorem em_r9 {x : Nat} : em c e be le hd ls st pr iv fa eb ml mf rw dn rk mn mm (e + 9) x = ((eb x : Nat) : Int) := by simp [em]
theorem em_w9 {k : Nat} {v : Nat} : up2 (em c e be le hd ls st pr iv fa eb ml mf rw dn rk mn mm) (e + 9) k ((v : Nat) : Int) = em c e be le hd ls st pr iv fa (uN eb k v) ml mf rw dn rk mn mm := by
  funext a i
  by_cases h1 : a = e + 9
  · subst h1
    by_cases h2 : i = k
    · subst h2; simp [up2, em, uN]
    · simp [up2, em, h2, uN]
  · simp [up2, h1, em]
theorem em_r10 {x : Nat} : em c e be le hd ls st pr iv fa eb ml mf rw dn rk mn mm (e + 10) x = ((ml x : Nat) : Int) := by simp [em]
theorem em_w10 {k : Nat} {v : Nat} : up2 (em c e be le hd ls st pr iv fa eb ml mf rw dn rk mn mm) (e + 10) k ((v : Nat) : Int) = em c e be le hd ls st pr iv fa eb (uN ml k v) mf rw dn rk mn mm := by
  funext a i
  by_cases h1 : a = e + 10
  · subst h1
    by_cases h2 : i = k
    · subst h2; simp [up2, em, uN]
    · simp [up2, em, h2, uN]
  · simp [up2, h1, em]
theorem em_r11 {x : Nat} : em c e be le hd ls st pr iv fa eb ml mf rw dn rk mn mm (e + 11) x = mf x := by simp [em]
theorem em_w11 {k : Nat} {v : Int} : up2 (em c e be le hd ls st pr iv fa eb ml mf rw dn rk mn mm) (e + 11) k v = em c e be le hd ls st pr iv fa eb ml (u1 mf k v) rw dn rk mn mm := by
  funext a i
  by_cases h1 : a = e + 11
  · subst h1
    by_cases h2 : i = k
    · subst h2; simp [up2, em, u1]
    · simp [up2, em, h2, u1]
  · simp [up2, h1, em]
theorem em_r12 {x : Nat} : em c e be le hd ls st pr iv fa eb ml mf rw dn rk mn mm (e + 12) x = ((rw x : Nat) : Int) := by simp [em]
theorem em_w12 {k : Nat} {v : Nat} : up2 (em c e be le hd ls st pr iv fa eb ml mf rw dn rk mn mm) (e + 12) k ((v : Nat) : Int) = em c e be le hd ls st pr iv fa eb ml mf (uN rw k v) dn rk mn mm := by
  funext a i
  by_cases h1 : a = e + 12
  · subst h1
    by_cases h2 : i = k
    · subst h2; simp [up2, em, uN]
    · simp [up2, em, h2, uN]
  · simp [up2, h1, em]
theorem em_r13 {x : Nat} : em c e be le hd ls st pr iv fa eb ml mf rw dn rk mn mm (e + 13) x = ((dn x : Nat) : Int) := by simp [em]
theorem em_w13 {k : Nat} {v : Nat} : up2 (em c e be le hd ls st pr iv fa eb ml mf rw dn rk mn mm) (e + 13) k ((v : Nat) : Int) = em c e be le hd ls st pr iv fa eb ml mf rw (uN dn k v) rk mn mm := by
  funext a i
  by_cases h1 : a = e + 13
  · subst h1
    by_cases h2 : i = k
    · subst h2; simp [up2, em, uN]
    · simp [up2, em, h2, uN]
  · simp [up2, h1, em]
theorem em_lo (he : e = 21 ∨ e = 35) {a i : Nat} (h : a < 21 ∨ 48 < a) : em c e be le hd ls st pr iv fa eb ml mf rw dn rk mn mm a i = c a i := by
  have q : ∀ k, k ≤ 13 → a ≠ e + k := fun k hk => by omega
  have q0 : a ≠ e := by omega
  simp [em, q0, q 1 (by omega), q 2 (by omega), q 3 (by omega), q 4 (by omega), q 5 (by omega), q 6 (by omega), q 7 (by omega), q 8 (by omega), q 9 (by omega), q 10 (by omega), q 11 (by omega), q 12 (by omega), q 13 (by omega)]
end EMs
set_option maxHeartbeats 2000000 in
set_option maxRecDepth 20000 in
theorem g_X1_byE {G : GG} {j nw nx gn : Nat} {g : Nat → Sh} {c : Nat → Nat → Int} {post : Option AV → AM → Prop} {e : Nat} {x : Nat} {s : Nat} (he : e = 21 ∨ e = 35) {be : Nat → Nat} {le : Nat → Nat} {hd : Nat → Nat} {ls : Nat → Nat} {st : Nat → Int} {pr : Nat → Nat} {iv : Nat → Nat} {fa : Nat → Nat} {eb : Nat → Nat} {ml : Nat → Nat} {mf : Nat → Int} {rw : Nat → Nat} {dn : Nat → Nat} {rk : Nat} {mn : Nat} {mm : Nat}  (hv : ((x * 5) + s < 300) ∧ (post (some (vi (st ((x * 5) + s)))) (S nw nx g, 78 + gn, (em c e be le hd ls st pr iv fa eb ml mf rw dn rk mn mm)))) :
    SW G (j + 0) mX1_by 0 [some (vr (e)), some (vi (((x : Nat) : Int))), some (vi (((s : Nat) : Int)))] [] (S nw nx g, 78 + gn, (em c e be le hd ls st pr iv fa eb ml mf rw dn rk mn mm)) B0 post := by
  refine sw_aload_n (dX1_by.at 0 rfl) rfl rfl ?_
  refine sw_getR (dX1_by.at 1 rfl) fp_X1_24 (S_e_lt he) (S_e he) rfl rfl ?_
  refine sw_iload_n (dX1_by.at 2 rfl) rfl rfl ?_
  refine sw_iconst (dX1_by.at 3 rfl) ?_
  refine sw_imul (dX1_by.at 4 rfl) ?_
  refine sw_topI (y := ((x * 5 : Nat) : Int)) (by first | rfl | (congr 1)) ?_
  refine sw_iload_n (dX1_by.at 5 rfl) rfl rfl ?_
  refine sw_iadd (dX1_by.at 6 rfl) ?_
  refine sw_topI (y := (((x * 5) + s : Nat) : Int)) (by first | rfl | (congr 1)) ?_
  refine sw_ialdN ((x * 5) + s) (w := st ((x * 5) + s)) (dX1_by.at 7 rfl) (S_ek_lt he (by decide)) (S_e_5 he) (by decide) hv.1 em_r5 ?_
  replace hv := hv.2
  exact sw_iret (dX1_by.at 8 rfl) rfl (Nat.le_refl _) (Nat.le_refl _) hv

set_option maxHeartbeats 2000000 in
set_option maxRecDepth 20000 in
theorem g_X1_mulE {G : GG} {j nw nx gn : Nat} {g : Nat → Sh} {c : Nat → Nat → Int} {post : Option AV → AM → Prop} {e : Nat} {x : Nat} {y : Nat} (he : e = 21 ∨ e = 35) {be : Nat → Nat} {le : Nat → Nat} {hd : Nat → Nat} {ls : Nat → Nat} {st : Nat → Int} {pr : Nat → Nat} {iv : Nat → Nat} {fa : Nat → Nat} {eb : Nat → Nat} {ml : Nat → Nat} {mf : Nat → Int} {rw : Nat → Nat} {dn : Nat → Nat} {rk : Nat} {mn : Nat} {mm : Nat}  (hv : ((x * 60) + y < 3600) ∧ (post (some (vi (((pr ((x * 60) + y) : Nat) : Int)))) (S nw nx g, 78 + gn, (em c e be le hd ls st pr iv fa eb ml mf rw dn rk mn mm)))) :
    SW G (j + 0) mX1_mul 0 [some (vr (e)), some (vi (((x : Nat) : Int))), some (vi (((y : Nat) : Int)))] [] (S nw nx g, 78 + gn, (em c e be le hd ls st pr iv fa eb ml mf rw dn rk mn mm)) B0 post := by
  refine sw_aload_n (dX1_mul.at 0 rfl) rfl rfl ?_
  refine sw_getR (dX1_mul.at 1 rfl) fp_X1_27 (S_e_lt he) (S_e he) rfl rfl ?_
  refine sw_iload_n (dX1_mul.at 2 rfl) rfl rfl ?_
  refine sw_bipush (dX1_mul.at 3 rfl) (by decide) ?_
  refine sw_imul (dX1_mul.at 4 rfl) ?_
  refine sw_topI (y := ((x * 60 : Nat) : Int)) (by first | rfl | (congr 1)) ?_
  refine sw_iload_n (dX1_mul.at 5 rfl) rfl rfl ?_
  refine sw_iadd (dX1_mul.at 6 rfl) ?_
  refine sw_topI (y := (((x * 60) + y : Nat) : Int)) (by first | rfl | (congr 1)) ?_
  refine sw_ialdN ((x * 60) + y) (w := ((pr ((x * 60) + y) : Nat) : Int)) (dX1_mul.at 7 rfl) (S_ek_lt he (by decide)) (S_e_6 he) (by decide) hv.1 em_r6 ?_
  replace hv := hv.2
  exact sw_iret (dX1_mul.at 8 rfl) rfl (Nat.le_refl _) (Nat.le_refl _) hv

set_option maxHeartbeats 2000000 in
set_option maxRecDepth 20000 in
theorem g_X1_turnsE {G : GG} {j nw nx gn : Nat} {g : Nat → Sh} {c : Nat → Nat → Int} {post : Option AV → AM → Prop} {e : Nat} {x : Nat} {y : Nat} (he : e = 21 ∨ e = 35) {be : Nat → Nat} {le : Nat → Nat} {hd : Nat → Nat} {ls : Nat → Nat} {st : Nat → Int} {pr : Nat → Nat} {iv : Nat → Nat} {fa : Nat → Nat} {eb : Nat → Nat} {ml : Nat → Nat} {mf : Nat → Int} {rw : Nat → Nat} {dn : Nat → Nat} {rk : Nat} {mn : Nat} {mm : Nat}  (hv : (x < 2147483648) ∧ (y < 2147483648) ∧ (((x ≠ y) → ((x * 5) + y < 25) ∧ (post (some (vi (((be ((x * 5) + y) : Nat) : Int)))) (S nw nx g, 78 + gn, (em c e be le hd ls st pr iv fa eb ml mf rw dn rk mn mm)))) ∧ ((x = y) → post (some (vi (1))) (S nw nx g, 78 + gn, (em c e be le hd ls st pr iv fa eb ml mf rw dn rk mn mm))))) :
    SW G (j + 0) mX1_turns 0 [some (vr (e)), some (vi (((x : Nat) : Int))), some (vi (((y : Nat) : Int)))] [] (S nw nx g, 78 + gn, (em c e be le hd ls st pr iv fa eb ml mf rw dn rk mn mm)) B0 post := by
  refine sw_iload_n (dX1_turns.at 0 rfl) rfl rfl ?_
  refine sw_iload_n (dX1_turns.at 1 rfl) rfl rfl ?_
  refine sw_icmpN_ne x y (tgt := 9) (dX1_turns.at 2 rfl) (by decide) hv.1 hv.2.1 (fun q => ?_) (fun q => ?_)
  · replace hv := hv.2.2.1 q
    refine sw_aload_n (dX1_turns.at 5 rfl) rfl rfl ?_
    refine sw_getR (dX1_turns.at 6 rfl) fp_X1_9 (S_e_lt he) (S_e he) rfl rfl ?_
    refine sw_iload_n (dX1_turns.at 7 rfl) rfl rfl ?_
    refine sw_iconst (dX1_turns.at 8 rfl) ?_
    refine sw_imul (dX1_turns.at 9 rfl) ?_
    refine sw_topI (y := ((x * 5 : Nat) : Int)) (by first | rfl | (congr 1)) ?_
    refine sw_iload_n (dX1_turns.at 10 rfl) rfl rfl ?_
    refine sw_iadd (dX1_turns.at 11 rfl) ?_
    refine sw_topI (y := (((x * 5) + y : Nat) : Int)) (by first | rfl | (congr 1)) ?_
    refine sw_ialdN ((x * 5) + y) (w := ((be ((x * 5) + y) : Nat) : Int)) (dX1_turns.at 12 rfl) (S_ek_lt he (by decide)) (S_e_1 he) (by decide) hv.1 em_r1 ?_
    replace hv := hv.2
    exact sw_iret (dX1_turns.at 13 rfl) rfl (Nat.le_refl _) (Nat.le_refl _) hv
  · replace hv := hv.2.2.2 q
    refine sw_iconst (dX1_turns.at 3 rfl) ?_
    refine sw_goto (tgt := 19) (dX1_turns.at 4 rfl) (by decide) ?_
    exact sw_iret (dX1_turns.at 13 rfl) rfl (Nat.le_refl _) (Nat.le_refl _) hv

def STok (st : Nat → Int) (mn : Nat) : Prop := ∀ x s, x < mn → s < 5 → st (x * 5 + s) = -1 ∨ ∃ v : Nat, v < mn ∧ st (x * 5 + s) = ((v : Nat) : Int)
theorem c_X1_byE {G : GG} {j nw nx gn : Nat} {g : Nat → Sh} {c : Nat → Nat → Int} {post : Option AV → AM → Prop} {e x s : Nat} {be : Nat → Nat} {le : Nat → Nat} {hd : Nat → Nat} {ls : Nat → Nat} {st : Nat → Int} {pr : Nat → Nat} {iv : Nat → Nat} {fa : Nat → Nat} {eb : Nat → Nat} {ml : Nat → Nat} {mf : Nat → Int} {rw : Nat → Nat} {dn : Nat → Nat} {rk : Nat} {mn : Nat} {mm : Nat} (he : e = 21 ∨ e = 35) (p1 : STok st mn) (p2 : mn ≤ 60) (p3 : x < mn) (p4 : s < 5) (K1 : st (x * 5 + s) = -1 → post (some (vi (-1))) (S nw nx g, 78 + gn, (em c e be le hd ls st pr iv fa eb ml mf rw dn rk mn mm))) (K2 : ∀ v : Nat, st (x * 5 + s) = ((v : Nat) : Int) ∧ v < mn → post (some (vi ((v : Nat) : Int))) (S nw nx g, 78 + gn, (em c e be le hd ls st pr iv fa eb ml mf rw dn rk mn mm))) : SM G (j + 1) mX1_by [vr (e), vi (((x : Nat) : Int)), vi (((s : Nat) : Int))] (S nw nx g, 78 + gn, (em c e be le hd ls st pr iv fa eb ml mf rw dn rk mn mm)) 0 0 post := by
  refine sm_of wX1_by rfl (Nat.le_of_ble_eq_true rfl) ?_
  refine g_X1_byE he ?_
  refine ⟨by omega, ?_⟩
  rcases p1 x s p3 p4 with h | ⟨v, h1, h2⟩
  · rw [h]; exact K1 h
  · rw [h2]; exact K2 v ⟨h2, h1⟩
theorem c_X1_byN {G : GG} {j nw nx gn : Nat} {g : Nat → Sh} {c : Nat → Nat → Int} {post : Option AV → AM → Prop} {e x s : Nat} {P : GD} {be : Nat → Nat} {le : Nat → Nat} {hd : Nat → Nat} {ls : Nat → Nat} {st : Nat → Int} {pr : Nat → Nat} {iv : Nat → Nat} {fa : Nat → Nat} {eb : Nat → Nat} {ml : Nat → Nat} {mf : Nat → Int} {rw : Nat → Nat} {dn : Nat → Nat} {rk : Nat} {mn : Nat} {mm : Nat} (he : e = 21 ∨ e = 35) (hst : ∀ x s, x < gN P → s < gR P → st (x * 5 + s) = ((gS P x s : Nat) : Int)) (hV : GV P) (p1 : x < gN P) (p2 : s < gR P) (K : post (some (vi ((gS P x s : Nat) : Int))) (S nw nx g, 78 + gn, (em c e be le hd ls st pr iv fa eb ml mf rw dn rk mn mm))) : SM G (j + 1) mX1_by [vr (e), vi (((x : Nat) : Int)), vi (((s : Nat) : Int))] (S nw nx g, 78 + gn, (em c e be le hd ls st pr iv fa eb ml mf rw dn rk mn mm)) 0 0 post := by
  refine sm_of wX1_by rfl (Nat.le_of_ble_eq_true rfl) ?_
  have := GV_N hV
  have := GV_R hV
  refine g_X1_byE he ?_
  refine ⟨by omega, ?_⟩
  rw [hst x s p1 p2]; exact K
theorem c_X1_mulE {G : GG} {j nw nx gn : Nat} {g : Nat → Sh} {c : Nat → Nat → Int} {post : Option AV → AM → Prop} {e x y : Nat} {be : Nat → Nat} {le : Nat → Nat} {hd : Nat → Nat} {ls : Nat → Nat} {st : Nat → Int} {pr : Nat → Nat} {iv : Nat → Nat} {fa : Nat → Nat} {eb : Nat → Nat} {ml : Nat → Nat} {mf : Nat → Int} {rw : Nat → Nat} {dn : Nat → Nat} {rk : Nat} {mn : Nat} {mm : Nat} (he : e = 21 ∨ e = 35) (p1 : x < 60) (p2 : y < 60) (K : post (some (vi ((pr (x * 60 + y) : Nat) : Int))) (S nw nx g, 78 + gn, (em c e be le hd ls st pr iv fa eb ml mf rw dn rk mn mm))) : SM G (j + 1) mX1_mul [vr (e), vi (((x : Nat) : Int)), vi (((y : Nat) : Int))] (S nw nx g, 78 + gn, (em c e be le hd ls st pr iv fa eb ml mf rw dn rk mn mm)) 0 0 post := by
  refine sm_of wX1_mul rfl (Nat.le_of_ble_eq_true rfl) ?_
  refine g_X1_mulE he ?_
  exact ⟨by omega, K⟩
theorem c_X1_turnsE {G : GG} {j nw nx gn : Nat} {g : Nat → Sh} {c : Nat → Nat → Int} {post : Option AV → AM → Prop} {e x y : Nat} {be : Nat → Nat} {le : Nat → Nat} {hd : Nat → Nat} {ls : Nat → Nat} {st : Nat → Int} {pr : Nat → Nat} {iv : Nat → Nat} {fa : Nat → Nat} {eb : Nat → Nat} {ml : Nat → Nat} {mf : Nat → Int} {rw : Nat → Nat} {dn : Nat → Nat} {rk : Nat} {mn : Nat} {mm : Nat} (he : e = 21 ∨ e = 35) (p1 : x < 5) (p2 : y < 5) (p3 : x ≠ y) (K : post (some (vi ((be (x * 5 + y) : Nat) : Int))) (S nw nx g, 78 + gn, (em c e be le hd ls st pr iv fa eb ml mf rw dn rk mn mm))) : SM G (j + 1) mX1_turns [vr (e), vi (((x : Nat) : Int)), vi (((y : Nat) : Int))] (S nw nx g, 78 + gn, (em c e be le hd ls st pr iv fa eb ml mf rw dn rk mn mm)) 0 0 post := by
  refine sm_of wX1_turns rfl (Nat.le_of_ble_eq_true rfl) ?_
  refine g_X1_turnsE he ?_
  refine ⟨?_, ?_, ⟨fun q => ⟨?_, ?_⟩, fun q => ?_⟩⟩
  all_goals first | omega | exact K | (exfalso; omega)

set_option maxHeartbeats 2000000 in
set_option maxRecDepth 20000 in
theorem g_X1_link_0 {G : GG} {j nw nx gn : Nat} {g : Nat → Sh} {c : Nat → Nat → Int} {post : Option AV → AM → Prop} {e : Nat} {x : Nat} {s : Nat} {y : Nat} (he : e = 21 ∨ e = 35) {be : Nat → Nat} {le : Nat → Nat} {hd : Nat → Nat} {ls : Nat → Nat} {st : Nat → Int} {pr : Nat → Nat} {iv : Nat → Nat} {fa : Nat → Nat} {eb : Nat → Nat} {ml : Nat → Nat} {mf : Nat → Int} {rw : Nat → Nat} {dn : Nat → Nat} {rk : Nat} {mn : Nat} {mm : Nat}  (hv : ((x * 5) + s < 300) ∧ (((y * 5) + s < 300) ∧ (post none (S nw nx g, 78 + gn, (em c e be le hd ls (u1 (u1 st ((x * 5) + s) ((y : Nat) : Int)) ((y * 5) + s) ((x : Nat) : Int)) pr iv fa eb ml mf rw dn rk mn mm))))) :
    SW G (j + 0) mX1_link 0 [some (vr (e)), some (vi (((x : Nat) : Int))), some (vi (((s : Nat) : Int))), some (vi (((y : Nat) : Int)))] [] (S nw nx g, 78 + gn, (em c e be le hd ls st pr iv fa eb ml mf rw dn rk mn mm)) B0 post := by
  refine sw_aload_n (dX1_link.at 0 rfl) rfl rfl ?_
  refine sw_getR (dX1_link.at 1 rfl) fp_X1_24 (S_e_lt he) (S_e he) rfl rfl ?_
  refine sw_iload_n (dX1_link.at 2 rfl) rfl rfl ?_
  refine sw_iconst (dX1_link.at 3 rfl) ?_
  refine sw_imul (dX1_link.at 4 rfl) ?_
  refine sw_topI (y := ((x * 5 : Nat) : Int)) (by first | rfl | (congr 1)) ?_
  refine sw_iload_n (dX1_link.at 5 rfl) rfl rfl ?_
  refine sw_iadd (dX1_link.at 6 rfl) ?_
  refine sw_topI (y := (((x * 5) + s : Nat) : Int)) (by first | rfl | (congr 1)) ?_
  refine sw_iload_n (dX1_link.at 7 rfl) rfl rfl ?_
  refine sw_iastN ((x * 5) + s) (dX1_link.at 8 rfl) (S_ek_lt he (by decide)) (S_e_5 he) (by decide) hv.1 ?_
  refine SW.cg (M' := (S nw nx g, 78 + gn, (em c e be le hd ls (u1 st ((x * 5) + s) ((y : Nat) : Int)) pr iv fa eb ml mf rw dn rk mn mm))) (congrArg (fun m => (S nw nx g, 78 + gn, m)) em_w5) ?_
  replace hv := hv.2
  refine sw_aload_n (dX1_link.at 9 rfl) rfl rfl ?_
  refine sw_getR (dX1_link.at 10 rfl) fp_X1_24 (S_e_lt he) (S_e he) rfl rfl ?_
  refine sw_iload_n (dX1_link.at 11 rfl) rfl rfl ?_
  refine sw_iconst (dX1_link.at 12 rfl) ?_
  refine sw_imul (dX1_link.at 13 rfl) ?_
  refine sw_topI (y := ((y * 5 : Nat) : Int)) (by first | rfl | (congr 1)) ?_
  refine sw_iload_n (dX1_link.at 14 rfl) rfl rfl ?_
  refine sw_iadd (dX1_link.at 15 rfl) ?_
  refine sw_topI (y := (((y * 5) + s : Nat) : Int)) (by first | rfl | (congr 1)) ?_
  refine sw_iload_n (dX1_link.at 16 rfl) rfl rfl ?_
  refine sw_iastN ((y * 5) + s) (dX1_link.at 17 rfl) (S_ek_lt he (by decide)) (S_e_5 he) (by decide) hv.1 ?_
  refine SW.cg (M' := (S nw nx g, 78 + gn, (em c e be le hd ls (u1 (u1 st ((x * 5) + s) ((y : Nat) : Int)) ((y * 5) + s) ((x : Nat) : Int)) pr iv fa eb ml mf rw dn rk mn mm))) (congrArg (fun m => (S nw nx g, 78 + gn, m)) em_w5) ?_
  replace hv := hv.2
  exact sw_vret (dX1_link.at 18 rfl) rfl (Nat.le_refl _) (Nat.le_refl _) hv

def lnk (st : Nat → Int) (x s y : Nat) : Nat → Int := (u1 (u1 st (x * 5 + s) ((y : Nat) : Int)) (y * 5 + s) ((x : Nat) : Int))
def n5 (st : Nat → Int) (m : Nat) : Nat → Int := u1 (u1 (u1 (u1 (u1 st (m * 5 + 0) (-1)) (m * 5 + 1) (-1)) (m * 5 + 2) (-1)) (m * 5 + 3) (-1)) (m * 5 + 4) (-1)
theorem n5_at (st : Nat → Int) (m x s : Nat) (hs : s < 5) : n5 st m (x * 5 + s) = if x = m then -1 else st (x * 5 + s) := by
  unfold n5
  simp only [u1]
  by_cases h : x = m
  · subst h
    rw [if_pos rfl]
    (repeat' split) <;> first | rfl | omega
  · rw [if_neg h]
    (repeat' split) <;> first | rfl | omega
theorem lnk_at (st : Nat → Int) (x s y a b : Nat) (hs : s < 5) (hb : b < 5) : lnk st x s y (a * 5 + b) = if b = s ∧ a = y then ((x : Nat) : Int) else if b = s ∧ a = x then ((y : Nat) : Int) else st (a * 5 + b) := by
  unfold lnk
  simp only [u1]
  by_cases h1 : b = s ∧ a = y
  · rw [if_pos h1, if_pos (by omega)]
  · rw [if_neg h1, if_neg (by omega)]
    by_cases h2 : b = s ∧ a = x
    · rw [if_pos h2, if_pos (by omega)]
    · rw [if_neg h2, if_neg (by omega)]
theorem c_X1_link {G : GG} {j nw nx gn : Nat} {g : Nat → Sh} {c : Nat → Nat → Int} {post : Option AV → AM → Prop} {e x s y : Nat} {be : Nat → Nat} {le : Nat → Nat} {hd : Nat → Nat} {ls : Nat → Nat} {st : Nat → Int} {pr : Nat → Nat} {iv : Nat → Nat} {fa : Nat → Nat} {eb : Nat → Nat} {ml : Nat → Nat} {mf : Nat → Int} {rw : Nat → Nat} {dn : Nat → Nat} {rk : Nat} {mn : Nat} {mm : Nat} (he : e = 21 ∨ e = 35) (p1 : x < 60) (p2 : s < 5) (p3 : y < 60) (K : post none (S nw nx g, 78 + gn, (em c e be le hd ls (lnk st x s y) pr iv fa eb ml mf rw dn rk mn mm))) : SM G (j + 1) mX1_link [vr (e), vi (((x : Nat) : Int)), vi (((s : Nat) : Int)), vi (((y : Nat) : Int))] (S nw nx g, 78 + gn, (em c e be le hd ls st pr iv fa eb ml mf rw dn rk mn mm)) 0 0 post := by
  refine sm_of wX1_link rfl (Nat.le_of_ble_eq_true rfl) ?_
  refine g_X1_link_0 he ?_
  exact ⟨by omega, by omega, K⟩

set_option maxHeartbeats 2000000 in
set_option maxRecDepth 20000 in
theorem g_X1_addElement_0 {G : GG} {j nw nx gn : Nat} {g : Nat → Sh} {c : Nat → Nat → Int} {post : Option AV → AM → Prop} {e : Nat} {x : Nat} {s : Nat} (he : e = 21 ∨ e = 35) {be : Nat → Nat} {le : Nat → Nat} {hd : Nat → Nat} {ls : Nat → Nat} {st : Nat → Int} {pr : Nat → Nat} {iv : Nat → Nat} {fa : Nat → Nat} {eb : Nat → Nat} {ml : Nat → Nat} {mf : Nat → Int} {rw : Nat → Nat} {dn : Nat → Nat} {rk : Nat} {mn : Nat} {mm : Nat}  (hv : (x < 60) ∧ ((mn < 60) ∧ ((mn < 60) ∧ ((mn < 60) ∧ (((mn * 5) + 0 < 300) ∧ (((mn * 5) + 1 < 300) ∧ (((mn * 5) + 2 < 300) ∧ (((mn * 5) + 3 < 300) ∧ (((mn * 5) + 4 < 300) ∧ (post none (S nw nx g, 78 + gn, (em c e be (uN le mn ((le x) + 1)) (uN hd mn x) (uN ls mn s) (u1 (u1 (u1 (u1 (u1 st ((mn * 5) + 0) (-1)) ((mn * 5) + 1) (-1)) ((mn * 5) + 2) (-1)) ((mn * 5) + 3) (-1)) ((mn * 5) + 4) (-1)) pr iv fa eb ml mf rw dn rk (mn + 1) mm)))))))))))) :
    SW G (j + 0) mX1_addElement 0 [some (vr (e)), some (vi (((x : Nat) : Int))), some (vi (((s : Nat) : Int))), none, none] [] (S nw nx g, 78 + gn, (em c e be le hd ls st pr iv fa eb ml mf rw dn rk mn mm)) B0 post := by
  refine sw_aload_n (dX1_addElement.at 0 rfl) rfl rfl ?_
  refine sw_getIE (w := ((mn : Nat) : Int)) (dX1_addElement.at 1 rfl) fp_X1_59 (S_e_lt he) (S_e he) rfl em_f14 ?_
  refine sw_istore_n (lo' := [some (vr (e)), some (vi (((x : Nat) : Int))), some (vi (((s : Nat) : Int))), some (vi (((mn : Nat) : Int))), none]) (dX1_addElement.at 2 rfl) rfl (by decide) rfl ?_
  refine sw_aload_n (dX1_addElement.at 3 rfl) rfl rfl ?_
  refine sw_dup (dX1_addElement.at 4 rfl) (fun _ h => by cases h) ?_
  refine sw_getIE (w := ((mn : Nat) : Int)) (dX1_addElement.at 5 rfl) fp_X1_59 (S_e_lt he) (S_e he) rfl em_f14 ?_
  refine sw_iconst (dX1_addElement.at 6 rfl) ?_
  refine sw_iadd (dX1_addElement.at 7 rfl) ?_
  refine sw_topI (y := ((mn + 1 : Nat) : Int)) (by first | rfl | (congr 1)) ?_
  refine sw_putI (dX1_addElement.at 8 rfl) fp_X1_59 (S_e_lt he) (S_e he) rfl ?_
  refine SW.cg (M' := (S nw nx g, 78 + gn, (em c e be le hd ls st pr iv fa eb ml mf rw dn rk (mn + 1) mm))) (congrArg (fun m => (S nw nx g, 78 + gn, m)) em_p14) ?_
  refine sw_aload_n (dX1_addElement.at 9 rfl) rfl rfl ?_
  refine sw_getR (dX1_addElement.at 10 rfl) fp_X1_15 (S_e_lt he) (S_e he) rfl rfl ?_
  refine sw_iload_n (dX1_addElement.at 11 rfl) rfl rfl ?_
  refine sw_aload_n (dX1_addElement.at 12 rfl) rfl rfl ?_
  refine sw_getR (dX1_addElement.at 13 rfl) fp_X1_15 (S_e_lt he) (S_e he) rfl rfl ?_
  refine sw_iload_n (dX1_addElement.at 14 rfl) rfl rfl ?_
  refine sw_ialdN x (w := ((le x : Nat) : Int)) (dX1_addElement.at 15 rfl) (S_ek_lt he (by decide)) (S_e_2 he) (by decide) hv.1 em_r2 ?_
  replace hv := hv.2
  refine sw_iconst (dX1_addElement.at 16 rfl) ?_
  refine sw_iadd (dX1_addElement.at 17 rfl) ?_
  refine sw_topI (y := (((le x) + 1 : Nat) : Int)) (by first | rfl | (congr 1)) ?_
  refine sw_iastN mn (dX1_addElement.at 18 rfl) (S_ek_lt he (by decide)) (S_e_2 he) (by decide) hv.1 ?_
  refine SW.cg (M' := (S nw nx g, 78 + gn, (em c e be (uN le mn ((le x) + 1)) hd ls st pr iv fa eb ml mf rw dn rk (mn + 1) mm))) (congrArg (fun m => (S nw nx g, 78 + gn, m)) em_w2) ?_
  replace hv := hv.2
  refine sw_aload_n (dX1_addElement.at 19 rfl) rfl rfl ?_
  refine sw_getR (dX1_addElement.at 20 rfl) fp_X1_18 (S_e_lt he) (S_e he) rfl rfl ?_
  refine sw_iload_n (dX1_addElement.at 21 rfl) rfl rfl ?_
  refine sw_iload_n (dX1_addElement.at 22 rfl) rfl rfl ?_
  refine sw_iastN mn (dX1_addElement.at 23 rfl) (S_ek_lt he (by decide)) (S_e_3 he) (by decide) hv.1 ?_
  refine SW.cg (M' := (S nw nx g, 78 + gn, (em c e be (uN le mn ((le x) + 1)) (uN hd mn x) ls st pr iv fa eb ml mf rw dn rk (mn + 1) mm))) (congrArg (fun m => (S nw nx g, 78 + gn, m)) em_w3) ?_
  replace hv := hv.2
  refine sw_aload_n (dX1_addElement.at 24 rfl) rfl rfl ?_
  refine sw_getR (dX1_addElement.at 25 rfl) fp_X1_21 (S_e_lt he) (S_e he) rfl rfl ?_
  refine sw_iload_n (dX1_addElement.at 26 rfl) rfl rfl ?_
  refine sw_iload_n (dX1_addElement.at 27 rfl) rfl rfl ?_
  refine sw_iastN mn (dX1_addElement.at 28 rfl) (S_ek_lt he (by decide)) (S_e_4 he) (by decide) hv.1 ?_
  refine SW.cg (M' := (S nw nx g, 78 + gn, (em c e be (uN le mn ((le x) + 1)) (uN hd mn x) (uN ls mn s) st pr iv fa eb ml mf rw dn rk (mn + 1) mm))) (congrArg (fun m => (S nw nx g, 78 + gn, m)) em_w4) ?_
  replace hv := hv.2
  refine sw_iconst (dX1_addElement.at 29 rfl) ?_
  refine sw_istore (lo' := [some (vr (e)), some (vi (((x : Nat) : Int))), some (vi (((s : Nat) : Int))), some (vi (((mn : Nat) : Int))), some (vi (0))]) (dX1_addElement.at 30 rfl) (by decide) rfl ?_
  refine sw_iload (dX1_addElement.at 31 rfl) rfl ?_
  refine sw_iconst (dX1_addElement.at 32 rfl) ?_
  refine sw_icmp_ge (tgt := 70) (dX1_addElement.at 33 rfl) (by decide) (by decide) (by decide) (fun q => ?_) (fun q => ?_)
  · exact absurd q (by decide)
  · clear q
    refine sw_aload_n (dX1_addElement.at 34 rfl) rfl rfl ?_
    refine sw_getR (dX1_addElement.at 35 rfl) fp_X1_24 (S_e_lt he) (S_e he) rfl rfl ?_
    refine sw_iload_n (dX1_addElement.at 36 rfl) rfl rfl ?_
    refine sw_iconst (dX1_addElement.at 37 rfl) ?_
    refine sw_imul (dX1_addElement.at 38 rfl) ?_
    refine sw_topI (y := ((mn * 5 : Nat) : Int)) (by first | rfl | (congr 1)) ?_
    refine sw_iload (dX1_addElement.at 39 rfl) rfl ?_
    refine sw_iadd (dX1_addElement.at 40 rfl) ?_
    refine sw_topI (y := (((mn * 5) + 0 : Nat) : Int)) (by first | rfl | (congr 1)) ?_
    refine sw_iconst (dX1_addElement.at 41 rfl) ?_
    refine sw_iastN ((mn * 5) + 0) (dX1_addElement.at 42 rfl) (S_ek_lt he (by decide)) (S_e_5 he) (by decide) hv.1 ?_
    refine SW.cg (M' := (S nw nx g, 78 + gn, (em c e be (uN le mn ((le x) + 1)) (uN hd mn x) (uN ls mn s) (u1 st ((mn * 5) + 0) (-1)) pr iv fa eb ml mf rw dn rk (mn + 1) mm))) (congrArg (fun m => (S nw nx g, 78 + gn, m)) em_w5) ?_
    replace hv := hv.2
    refine sw_iinc (lo' := [some (vr (e)), some (vi (((x : Nat) : Int))), some (vi (((s : Nat) : Int))), some (vi (((mn : Nat) : Int))), some (vi (1))]) (dX1_addElement.at 43 rfl) rfl (by decide) rfl ?_
    refine sw_goto (tgt := 46) (dX1_addElement.at 44 rfl) (by decide) ?_
    refine sw_iload (dX1_addElement.at 31 rfl) rfl ?_
    refine sw_iconst (dX1_addElement.at 32 rfl) ?_
    refine sw_icmp_ge (tgt := 70) (dX1_addElement.at 33 rfl) (by decide) (by decide) (by decide) (fun q => ?_) (fun q => ?_)
    · exact absurd q (by decide)
    · clear q
      refine sw_aload_n (dX1_addElement.at 34 rfl) rfl rfl ?_
      refine sw_getR (dX1_addElement.at 35 rfl) fp_X1_24 (S_e_lt he) (S_e he) rfl rfl ?_
      refine sw_iload_n (dX1_addElement.at 36 rfl) rfl rfl ?_
      refine sw_iconst (dX1_addElement.at 37 rfl) ?_
      refine sw_imul (dX1_addElement.at 38 rfl) ?_
      refine sw_topI (y := ((mn * 5 : Nat) : Int)) (by first | rfl | (congr 1)) ?_
      refine sw_iload (dX1_addElement.at 39 rfl) rfl ?_
      refine sw_iadd (dX1_addElement.at 40 rfl) ?_
      refine sw_topI (y := (((mn * 5) + 1 : Nat) : Int)) (by first | rfl | (congr 1)) ?_
      refine sw_iconst (dX1_addElement.at 41 rfl) ?_
      refine sw_iastN ((mn * 5) + 1) (dX1_addElement.at 42 rfl) (S_ek_lt he (by decide)) (S_e_5 he) (by decide) hv.1 ?_
      refine SW.cg (M' := (S nw nx g, 78 + gn, (em c e be (uN le mn ((le x) + 1)) (uN hd mn x) (uN ls mn s) (u1 (u1 st ((mn * 5) + 0) (-1)) ((mn * 5) + 1) (-1)) pr iv fa eb ml mf rw dn rk (mn + 1) mm))) (congrArg (fun m => (S nw nx g, 78 + gn, m)) em_w5) ?_
      replace hv := hv.2
      refine sw_iinc (lo' := [some (vr (e)), some (vi (((x : Nat) : Int))), some (vi (((s : Nat) : Int))), some (vi (((mn : Nat) : Int))), some (vi (2))]) (dX1_addElement.at 43 rfl) rfl (by decide) rfl ?_
      refine sw_goto (tgt := 46) (dX1_addElement.at 44 rfl) (by decide) ?_
      refine sw_iload (dX1_addElement.at 31 rfl) rfl ?_
      refine sw_iconst (dX1_addElement.at 32 rfl) ?_
      refine sw_icmp_ge (tgt := 70) (dX1_addElement.at 33 rfl) (by decide) (by decide) (by decide) (fun q => ?_) (fun q => ?_)
      · exact absurd q (by decide)
      · clear q
        refine sw_aload_n (dX1_addElement.at 34 rfl) rfl rfl ?_
        refine sw_getR (dX1_addElement.at 35 rfl) fp_X1_24 (S_e_lt he) (S_e he) rfl rfl ?_
        refine sw_iload_n (dX1_addElement.at 36 rfl) rfl rfl ?_
        refine sw_iconst (dX1_addElement.at 37 rfl) ?_
        refine sw_imul (dX1_addElement.at 38 rfl) ?_
        refine sw_topI (y := ((mn * 5 : Nat) : Int)) (by first | rfl | (congr 1)) ?_
        refine sw_iload (dX1_addElement.at 39 rfl) rfl ?_
        refine sw_iadd (dX1_addElement.at 40 rfl) ?_
        refine sw_topI (y := (((mn * 5) + 2 : Nat) : Int)) (by first | rfl | (congr 1)) ?_
        refine sw_iconst (dX1_addElement.at 41 rfl) ?_
        refine sw_iastN ((mn * 5) + 2) (dX1_addElement.at 42 rfl) (S_ek_lt he (by decide)) (S_e_5 he) (by decide) hv.1 ?_
        refine SW.cg (M' := (S nw nx g, 78 + gn, (em c e be (uN le mn ((le x) + 1)) (uN hd mn x) (uN ls mn s) (u1 (u1 (u1 st ((mn * 5) + 0) (-1)) ((mn * 5) + 1) (-1)) ((mn * 5) + 2) (-1)) pr iv fa eb ml mf rw dn rk (mn + 1) mm))) (congrArg (fun m => (S nw nx g, 78 + gn, m)) em_w5) ?_
        replace hv := hv.2
        refine sw_iinc (lo' := [some (vr (e)), some (vi (((x : Nat) : Int))), some (vi (((s : Nat) : Int))), some (vi (((mn : Nat) : Int))), some (vi (3))]) (dX1_addElement.at 43 rfl) rfl (by decide) rfl ?_
        refine sw_goto (tgt := 46) (dX1_addElement.at 44 rfl) (by decide) ?_
        refine sw_iload (dX1_addElement.at 31 rfl) rfl ?_
        refine sw_iconst (dX1_addElement.at 32 rfl) ?_
        refine sw_icmp_ge (tgt := 70) (dX1_addElement.at 33 rfl) (by decide) (by decide) (by decide) (fun q => ?_) (fun q => ?_)
        · exact absurd q (by decide)
        · clear q
          refine sw_aload_n (dX1_addElement.at 34 rfl) rfl rfl ?_
          refine sw_getR (dX1_addElement.at 35 rfl) fp_X1_24 (S_e_lt he) (S_e he) rfl rfl ?_
          refine sw_iload_n (dX1_addElement.at 36 rfl) rfl rfl ?_
          refine sw_iconst (dX1_addElement.at 37 rfl) ?_
          refine sw_imul (dX1_addElement.at 38 rfl) ?_
          refine sw_topI (y := ((mn * 5 : Nat) : Int)) (by first | rfl | (congr 1)) ?_
          refine sw_iload (dX1_addElement.at 39 rfl) rfl ?_
          refine sw_iadd (dX1_addElement.at 40 rfl) ?_
          refine sw_topI (y := (((mn * 5) + 3 : Nat) : Int)) (by first | rfl | (congr 1)) ?_
          refine sw_iconst (dX1_addElement.at 41 rfl) ?_
          refine sw_iastN ((mn * 5) + 3) (dX1_addElement.at 42 rfl) (S_ek_lt he (by decide)) (S_e_5 he) (by decide) hv.1 ?_
          refine SW.cg (M' := (S nw nx g, 78 + gn, (em c e be (uN le mn ((le x) + 1)) (uN hd mn x) (uN ls mn s) (u1 (u1 (u1 (u1 st ((mn * 5) + 0) (-1)) ((mn * 5) + 1) (-1)) ((mn * 5) + 2) (-1)) ((mn * 5) + 3) (-1)) pr iv fa eb ml mf rw dn rk (mn + 1) mm))) (congrArg (fun m => (S nw nx g, 78 + gn, m)) em_w5) ?_
          replace hv := hv.2
          refine sw_iinc (lo' := [some (vr (e)), some (vi (((x : Nat) : Int))), some (vi (((s : Nat) : Int))), some (vi (((mn : Nat) : Int))), some (vi (4))]) (dX1_addElement.at 43 rfl) rfl (by decide) rfl ?_
          refine sw_goto (tgt := 46) (dX1_addElement.at 44 rfl) (by decide) ?_
          refine sw_iload (dX1_addElement.at 31 rfl) rfl ?_
          refine sw_iconst (dX1_addElement.at 32 rfl) ?_
          refine sw_icmp_ge (tgt := 70) (dX1_addElement.at 33 rfl) (by decide) (by decide) (by decide) (fun q => ?_) (fun q => ?_)
          · exact absurd q (by decide)
          · clear q
            refine sw_aload_n (dX1_addElement.at 34 rfl) rfl rfl ?_
            refine sw_getR (dX1_addElement.at 35 rfl) fp_X1_24 (S_e_lt he) (S_e he) rfl rfl ?_
            refine sw_iload_n (dX1_addElement.at 36 rfl) rfl rfl ?_
            refine sw_iconst (dX1_addElement.at 37 rfl) ?_
            refine sw_imul (dX1_addElement.at 38 rfl) ?_
            refine sw_topI (y := ((mn * 5 : Nat) : Int)) (by first | rfl | (congr 1)) ?_
            refine sw_iload (dX1_addElement.at 39 rfl) rfl ?_
            refine sw_iadd (dX1_addElement.at 40 rfl) ?_
            refine sw_topI (y := (((mn * 5) + 4 : Nat) : Int)) (by first | rfl | (congr 1)) ?_
            refine sw_iconst (dX1_addElement.at 41 rfl) ?_
            refine sw_iastN ((mn * 5) + 4) (dX1_addElement.at 42 rfl) (S_ek_lt he (by decide)) (S_e_5 he) (by decide) hv.1 ?_
            refine SW.cg (M' := (S nw nx g, 78 + gn, (em c e be (uN le mn ((le x) + 1)) (uN hd mn x) (uN ls mn s) (u1 (u1 (u1 (u1 (u1 st ((mn * 5) + 0) (-1)) ((mn * 5) + 1) (-1)) ((mn * 5) + 2) (-1)) ((mn * 5) + 3) (-1)) ((mn * 5) + 4) (-1)) pr iv fa eb ml mf rw dn rk (mn + 1) mm))) (congrArg (fun m => (S nw nx g, 78 + gn, m)) em_w5) ?_
            replace hv := hv.2
            refine sw_iinc (lo' := [some (vr (e)), some (vi (((x : Nat) : Int))), some (vi (((s : Nat) : Int))), some (vi (((mn : Nat) : Int))), some (vi (5))]) (dX1_addElement.at 43 rfl) rfl (by decide) rfl ?_
            refine sw_goto (tgt := 46) (dX1_addElement.at 44 rfl) (by decide) ?_
            refine sw_iload (dX1_addElement.at 31 rfl) rfl ?_
            refine sw_iconst (dX1_addElement.at 32 rfl) ?_
            refine sw_icmp_ge (tgt := 70) (dX1_addElement.at 33 rfl) (by decide) (by decide) (by decide) (fun q => ?_) (fun q => ?_)
            · clear q
              exact sw_vret (dX1_addElement.at 45 rfl) rfl (Nat.le_refl _) (Nat.le_refl _) hv
            · exact absurd q (by decide)

set_option maxHeartbeats 4000000 in
theorem c_X1_addElement {G : GG} {j nw nx gn : Nat} {g : Nat → Sh} {c : Nat → Nat → Int} {post : Option AV → AM → Prop} {e x s : Nat} {be : Nat → Nat} {le : Nat → Nat} {hd : Nat → Nat} {ls : Nat → Nat} {st : Nat → Int} {pr : Nat → Nat} {iv : Nat → Nat} {fa : Nat → Nat} {eb : Nat → Nat} {ml : Nat → Nat} {mf : Nat → Int} {rw : Nat → Nat} {dn : Nat → Nat} {rk : Nat} {mn : Nat} {mm : Nat} (he : e = 21 ∨ e = 35) (p1 : x < 60) (p2 : mn < 60) (K : post none (S nw nx g, 78 + gn, (em c e be (uN le mn (le x + 1)) (uN hd mn x) (uN ls mn s) (n5 st mn) pr iv fa eb ml mf rw dn rk (mn + 1) mm))) : SM G (j + 1) mX1_addElement [vr (e), vi (((x : Nat) : Int)), vi (((s : Nat) : Int))] (S nw nx g, 78 + gn, (em c e be le hd ls st pr iv fa eb ml mf rw dn rk mn mm)) 0 0 post := by
  refine sm_of wX1_addElement rfl (Nat.le_of_ble_eq_true rfl) ?_
  refine g_X1_addElement_0 he ?_
  refine ⟨?_, ⟨?_, ⟨?_, ⟨?_, ⟨?_, ⟨?_, ⟨?_, ⟨?_, ⟨?_, ?_⟩⟩⟩⟩⟩⟩⟩⟩⟩
  all_goals first | omega | exact K

