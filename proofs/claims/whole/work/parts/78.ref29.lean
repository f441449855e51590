def con (P : GD) (s : Nat) (A : Nat → Nat → Int) (q r a k : Nat) : Int := if (gE P a).testBit s then (if q = gS P a s ∧ r = k + 1 then A a k else 0) + (if q = a ∧ r = k + 1 then A a k else 0) - (if q = a ∧ r = k then A a k else 0) else (if q = gS P a s ∧ r = k then A a k else 0)
theorem sumN_eq1 (g : Nat → Int) (c : Prop) [Decidable c] (r : Nat) : ∀ n, sumN (fun k => if c ∧ r = k then g k else 0) n = if c ∧ r < n then g r else 0 := by
  intro n
  rw [sumN_one _ r (fun i hi => by rw [if_neg (fun h => hi h.2.symm)])]
  by_cases hc : c
  · simp [hc]
  · simp [hc]
theorem sumN_eq2 (g : Nat → Int) (c : Prop) [Decidable c] (r : Nat) : ∀ n, sumN (fun k => if c ∧ r = k + 1 then g k else 0) n = if c ∧ 0 < r ∧ r - 1 < n then g (r - 1) else 0 := by
  intro n
  by_cases h0 : 0 < r
  · rw [sumN_cong (f2 := fun k => if c ∧ r - 1 = k then g k else 0) n (fun k _ => by
      by_cases h : c ∧ r = k + 1
      · rw [if_pos h, if_pos ⟨h.1, by omega⟩]
      · rw [if_neg h, if_neg (fun q => h ⟨q.1, by omega⟩)]), sumN_eq1]
    by_cases h : c ∧ r - 1 < n
    · rw [if_pos h, if_pos ⟨h.1, h0, h.2⟩]
    · rw [if_neg h, if_neg (fun q => h ⟨q.1, q.2.2⟩)]
  · rw [sumN_cong (f2 := fun _ => 0) n (fun k _ => by rw [if_neg (fun h => by omega)]), sumN_0, if_neg (fun h => h0 h.2.1)]
theorem sumN_sub (f g : Nat → Int) : ∀ n, sumN (fun i => f i - g i) n = sumN f n - sumN g n := by
  intro n
  induction n with
  | zero => rfl
  | succ n ih => rw [sumN, sumN, sumN, ih]; omega
def cf1 (P : GD) (s : Nat) (A : Nat → Nat → Int) (q r a : Nat) : Int := if q = gS P a s then (if (gE P a).testBit s then (if r = 0 then 0 else A a (r - 1)) else A a r) else 0
def cf2 (P : GD) (s : Nat) (A : Nat → Nat → Int) (q r a : Nat) : Int := if q = a then (if (gE P a).testBit s then (if r = 0 then 0 else A a (r - 1)) - A a r else 0) else 0
theorem con_in {P : GD} {s : Nat} {A : Nat → Nat → Int} {q r a : Nat} (hr : r < 14) : sumN (con P s A q r a) 14 = cf1 P s A q r a + cf2 P s A q r a := by
  by_cases hb : (gE P a).testBit s = true
  · rw [sumN_cong (f2 := fun k => ((if q = gS P a s ∧ r = k + 1 then A a k else 0) + (if q = a ∧ r = k + 1 then A a k else 0)) - (if q = a ∧ r = k then A a k else 0)) 14 (fun k _ => by rw [con, if_pos hb]), sumN_sub, sumN_add, sumN_eq2, sumN_eq2, sumN_eq1, cf1, cf2, if_pos hb, if_pos hb]
    by_cases h0 : r = 0
    · subst h0
      rw [if_neg (fun h => by omega), if_neg (fun h => by omega)]
      by_cases e2 : q = a
      · rw [if_pos ⟨e2, hr⟩, if_pos e2]; by_cases e1 : q = gS P a s <;> simp [e1]
      · rw [if_neg (fun h => e2 h.1), if_neg e2]; by_cases e1 : q = gS P a s <;> simp [e1]
    · by_cases e1 : q = gS P a s
      · by_cases e2 : q = a
        · rw [if_pos ⟨e1, by omega, by omega⟩, if_pos ⟨e2, by omega, by omega⟩, if_pos ⟨e2, hr⟩, if_pos e1, if_neg h0, if_pos e2]; omega
        · rw [if_pos ⟨e1, by omega, by omega⟩, if_neg (fun h => e2 h.1), if_neg (fun h => e2 h.1), if_pos e1, if_neg h0, if_neg e2]; omega
      · by_cases e2 : q = a
        · rw [if_neg (fun h => e1 h.1), if_pos ⟨e2, by omega, by omega⟩, if_pos ⟨e2, hr⟩, if_neg e1, if_pos e2, if_neg h0]; omega
        · rw [if_neg (fun h => e1 h.1), if_neg (fun h => e2 h.1), if_neg (fun h => e2 h.1), if_neg e1, if_neg e2]; rfl
  · rw [sumN_cong (f2 := fun k => if q = gS P a s ∧ r = k then A a k else 0) 14 (fun k _ => by rw [con, if_neg hb]), sumN_eq1, cf1, cf2, if_neg hb, if_neg hb]
    by_cases e1 : q = gS P a s
    · rw [if_pos ⟨e1, hr⟩, if_pos e1]; split <;> omega
    · rw [if_neg (fun h => e1 h.1), if_neg e1]; split <;> rfl
theorem con_all {P : GD} (hC : GC P) (hV : GV P) (hs : hSi P) {s : Nat} (hsR : s < gR P) {A : Nat → Nat → Int} {q r : Nat} (hq : q < gN P) (hr : r < 14) : sumN (fun a => sumN (con P s A q r a) 14) (gN P) = hkS P s A q r := by
  have hS := hV.2.2.2.1 q s hq hsR
  have ad := asc_desc hC hV hs hq hsR
  rw [sumN_cong (f2 := fun a => (if a < gN P then cf1 P s A q r a else 0) + cf2 P s A q r a) _ (fun a ha => by rw [con_in hr, if_pos ha]), sumN_add, sumN_one _ (gS P q s) (fun a ha => ?_), sumN_one _ q (fun a ha => ?_), if_pos hS, if_pos hS, if_pos hq, cf1, cf2, if_pos (hs q s hq hsR).symm, if_pos rfl, hkS]
  · rw [ad]
    cases (gE P q).testBit s with
    | true => simp only [Bool.not_true, Bool.false_eq_true, if_false, if_true]; omega
    | false => simp only [Bool.not_false, Bool.false_eq_true, if_false, if_true]; omega
  · rw [cf2, if_neg (fun h => ha h.symm)]
  · split
    · rename_i haN
      rw [cf1, if_neg (fun h => ha (by rw [h, hs a s haN hsR]))]
    · rfl
set_option maxHeartbeats 2000000 in
set_option maxRecDepth 20000 in
theorem g_X9_timesLetter_46 {G : GG} {j nw nx gn : Nat} {g : Nat → Sh} {c : Nat → Nat → Int} {post : Option AV → AM → Prop} {l : Nat} {P : GD} {F : Nat → Int} {H : Nat → Int} {s : Nat → Int} {x : Nat} {y : Nat} {k0 : Nat} (hM : ML c P) (hV : GV P)  (hv : (k0 < 2147483648) ∧ (((14 ≤ k0) → SW G (j + 1) mX9_timesLetter 24 [some (vr (49)), some (vi (((l : Nat) : Int))), some (vi (((x + 1 : Nat) : Int))), none, none, none, none] [] (S nw nx g, 78 + gn, (wr (wr (wr c 69 F) 70 H) 61 s)) B0 post) ∧ ((¬ (14 ≤ k0)) → ((14 * x) + k0 < 840) ∧ ((-9223372036854775808 ≤ F ((14 * x) + k0) ∧ F ((14 * x) + k0) < 9223372036854775808) ∧ (((F ((14 * x) + k0) ≠ 0) → (y < gN P) ∧ ((x < gN P) ∧ ((gL P y < 2147483648) ∧ (gL P x < 2147483648) ∧ (((gL P y ≤ gL P x) → (((14 * y) + k0) + 1 < 840) ∧ ((((14 * y) + k0) + 1 < 840) ∧ ((((14 * x) + k0) + 1 < 840) ∧ ((((14 * x) + k0) + 1 < 840) ∧ (((14 * x) + k0 < 840) ∧ (((14 * x) + k0 < 840) ∧ (SW G (j + 1) mX9_timesLetter 46 [some (vr (49)), some (vi (((l : Nat) : Int))), some (vi (((x : Nat) : Int))), some (vi (((y : Nat) : Int))), some (vi (((k0 + 1 : Nat) : Int))), none, none] [] (S nw nx g, 78 + gn, (wr (wr (wr c 69 F) 70 (u1 (u1 (u1 H (((14 * y) + k0) + 1) ((H (((14 * y) + k0) + 1)) + (F ((14 * x) + k0)))) (((14 * x) + k0) + 1) (((u1 H (((14 * y) + k0) + 1) ((H (((14 * y) + k0) + 1)) + (F ((14 * x) + k0)))) (((14 * x) + k0) + 1)) + (F ((14 * x) + k0)))) ((14 * x) + k0) (((u1 (u1 H (((14 * y) + k0) + 1) ((H (((14 * y) + k0) + 1)) + (F ((14 * x) + k0)))) (((14 * x) + k0) + 1) (((u1 H (((14 * y) + k0) + 1) ((H (((14 * y) + k0) + 1)) + (F ((14 * x) + k0)))) (((14 * x) + k0) + 1)) + (F ((14 * x) + k0)))) ((14 * x) + k0)) - (F ((14 * x) + k0))))) 61 s)) B0 post))))))) ∧ ((¬ (gL P y ≤ gL P x)) → ((14 * y) + k0 < 840) ∧ (((14 * y) + k0 < 840) ∧ (SW G (j + 1) mX9_timesLetter 46 [some (vr (49)), some (vi (((l : Nat) : Int))), some (vi (((x : Nat) : Int))), some (vi (((y : Nat) : Int))), some (vi (((k0 + 1 : Nat) : Int))), none, none] [] (S nw nx g, 78 + gn, (wr (wr (wr c 69 F) 70 (u1 H ((14 * y) + k0) ((H ((14 * y) + k0)) + (F ((14 * x) + k0))))) 61 s)) B0 post))))))) ∧ ((F ((14 * x) + k0) = 0) → SW G (j + 1) mX9_timesLetter 46 [some (vr (49)), some (vi (((l : Nat) : Int))), some (vi (((x : Nat) : Int))), some (vi (((y : Nat) : Int))), some (vi (((k0 + 1 : Nat) : Int))), none, none] [] (S nw nx g, 78 + gn, (wr (wr (wr c 69 F) 70 H) 61 s)) B0 post)))))) :
    SW G (j + 1) mX9_timesLetter 46 [some (vr (49)), some (vi (((l : Nat) : Int))), some (vi (((x : Nat) : Int))), some (vi (((y : Nat) : Int))), some (vi (((k0 : Nat) : Int))), none, none] [] (S nw nx g, 78 + gn, (wr (wr (wr c 69 F) 70 H) 61 s)) B0 post := by
  refine sw_iload (dX9_timesLetter_0.at 29 rfl) rfl ?_
  refine sw_bipush (dX9_timesLetter_0.at 30 rfl) (by decide) ?_
  refine sw_icmpN_ge k0 14 (tgt := 173) (dX9_timesLetter_0.at 31 rfl) (by decide) hv.1 (by decide) (fun q => ?_) (fun q => ?_)
  · replace hv := hv.2.1 q
    refine sw_iinc (lo' := [some (vr (49)), some (vi (((l : Nat) : Int))), some (vi (((x + 1 : Nat) : Int))), some (vi (((y : Nat) : Int))), some (vi (((k0 : Nat) : Int))), none, none]) (dX9_timesLetter_2.at 10 rfl) rfl (by decide) rfl ?_
    refine sw_goto (tgt := 24) (dX9_timesLetter_2.at 11 rfl) (by decide) ?_
    exact sw_mask (bs := [true, true, true, false, false, false, false]) hv
  · replace hv := hv.2.2 q
    refine sw_aload_n (dX9_timesLetter_0.at 32 rfl) rfl rfl ?_
    refine sw_getR (dX9_timesLetter_0.at 33 rfl) fp_X9_74 (S_lt 49 (by decide)) (S_49 nw nx g) rfl rfl ?_
    refine sw_bipush (dX9_timesLetter_0.at 34 rfl) (by decide) ?_
    refine sw_iload_n (dX9_timesLetter_0.at 35 rfl) rfl rfl ?_
    refine sw_imul (dX9_timesLetter_0.at 36 rfl) ?_
    refine sw_topI (y := ((14 * x : Nat) : Int)) (by first | rfl | (congr 1)) ?_
    refine sw_iload (dX9_timesLetter_0.at 37 rfl) rfl ?_
    refine sw_iadd (dX9_timesLetter_0.at 38 rfl) ?_
    refine sw_topI (y := (((14 * x) + k0 : Nat) : Int)) (by first | rfl | (congr 1)) ?_
    refine sw_laldN ((14 * x) + k0) (w := F ((14 * x) + k0)) (dX9_timesLetter_0.at 39 rfl) (S_lt 69 (by decide)) (S_69 nw nx g) (by decide) hv.1 rfl ?_
    replace hv := hv.2
    refine sw_lstore (lo' := [some (vr (49)), some (vi (((l : Nat) : Int))), some (vi (((x : Nat) : Int))), some (vi (((y : Nat) : Int))), some (vi (((k0 : Nat) : Int))), some (vl (F ((14 * x) + k0))), none]) (dX9_timesLetter_0.at 40 rfl) (by decide) rfl ?_
    refine sw_lload (dX9_timesLetter_0.at 41 rfl) rfl ?_
    refine sw_lconst (z := 0) (dX9_timesLetter_0.at 42 rfl) (by decide) ?_
    refine sw_lcmp_ne (tgt := 77) (dX9_timesLetter_0.at 43 rfl) (dX9_timesLetter_0.at 44 rfl) (by decide) hv.1 (by decide) (fun q => ?_) (fun q => ?_)
    · replace hv := hv.2.1 q
      refine sw_aload_n (dX9_timesLetter_0.at 46 rfl) rfl rfl ?_
      refine sw_getR (dX9_timesLetter_0.at 47 rfl) fp_X9_32 (S_lt 49 (by decide)) (S_49 nw nx g) rfl rfl ?_
      refine sw_iload_n (dX9_timesLetter_0.at 48 rfl) rfl rfl ?_
      refine sw_ialdN y (w := ((gL P y : Nat) : Int)) (dX9_timesLetter_0.at 49 rfl) (S_lt 56 (by decide)) (S_56 nw nx g) (by decide) (GV_lt hV hv.1) (ML_L (ML_SC hM (SC_wr (SC_wr (SC_wr SC_rf (a := 69) (f := F) (by decide)) (a := 70) (f := H) (by decide)) (a := 61) (f := s) (by decide))) hv.1) ?_
      replace hv := hv.2
      refine sw_aload_n (dX9_timesLetter_1.at 0 rfl) rfl rfl ?_
      refine sw_getR (dX9_timesLetter_1.at 1 rfl) fp_X9_32 (S_lt 49 (by decide)) (S_49 nw nx g) rfl rfl ?_
      refine sw_iload_n (dX9_timesLetter_1.at 2 rfl) rfl rfl ?_
      refine sw_ialdN x (w := ((gL P x : Nat) : Int)) (dX9_timesLetter_1.at 3 rfl) (S_lt 56 (by decide)) (S_56 nw nx g) (by decide) (GV_lt hV hv.1) (ML_L (ML_SC hM (SC_wr (SC_wr (SC_wr SC_rf (a := 69) (f := F) (by decide)) (a := 70) (f := H) (by decide)) (a := 61) (f := s) (by decide))) hv.1) ?_
      replace hv := hv.2
      refine sw_icmpN_le (gL P y) (gL P x) (tgt := 112) (dX9_timesLetter_1.at 4 rfl) (by decide) hv.1 hv.2.1 (fun q => ?_) (fun q => ?_)
      · replace hv := hv.2.2.1 q
        refine sw_aload_n (dX9_timesLetter_1.at 18 rfl) rfl rfl ?_
        refine sw_getR (dX9_timesLetter_1.at 19 rfl) fp_X9_77 (S_lt 49 (by decide)) (S_49 nw nx g) rfl rfl ?_
        refine sw_bipush (dX9_timesLetter_1.at 20 rfl) (by decide) ?_
        refine sw_iload_n (dX9_timesLetter_1.at 21 rfl) rfl rfl ?_
        refine sw_imul (dX9_timesLetter_1.at 22 rfl) ?_
        refine sw_topI (y := ((14 * y : Nat) : Int)) (by first | rfl | (congr 1)) ?_
        refine sw_iload (dX9_timesLetter_1.at 23 rfl) rfl ?_
        refine sw_iadd (dX9_timesLetter_1.at 24 rfl) ?_
        refine sw_topI (y := (((14 * y) + k0 : Nat) : Int)) (by first | rfl | (congr 1)) ?_
        refine sw_iconst (dX9_timesLetter_1.at 25 rfl) ?_
        refine sw_iadd (dX9_timesLetter_1.at 26 rfl) ?_
        refine sw_topI (y := ((((14 * y) + k0) + 1 : Nat) : Int)) (by first | rfl | (congr 1)) ?_
        refine sw_dup2 (dX9_timesLetter_1.at 27 rfl) (fun _ h => by cases h) (fun _ h => by cases h) ?_
        refine sw_laldN (((14 * y) + k0) + 1) (w := H (((14 * y) + k0) + 1)) (dX9_timesLetter_1.at 28 rfl) (S_lt 70 (by decide)) (S_70 nw nx g) (by decide) hv.1 rfl ?_
        replace hv := hv.2
        refine sw_lload (dX9_timesLetter_1.at 29 rfl) rfl ?_
        refine sw_ladd (dX9_timesLetter_1.at 30 rfl) ?_
        refine sw_lastN (((14 * y) + k0) + 1) (dX9_timesLetter_1.at 31 rfl) (S_lt 70 (by decide)) (S_70 nw nx g) (by decide) hv.1 ?_
        refine SW.cg (M' := (S nw nx g, 78 + gn, (wr (wr (wr c 69 F) 70 (u1 H (((14 * y) + k0) + 1) ((H (((14 * y) + k0) + 1)) + (F ((14 * x) + k0))))) 61 s))) (congrArg (fun m => (S nw nx g, 78 + gn, m)) ((wr_up_in (wr (wr c 69 F) 70 H) 61 s 70 (((14 * y) + k0) + 1) ((H (((14 * y) + k0) + 1)) + (F ((14 * x) + k0))) (by decide)).trans (congrArg (fun m => wr m 61 s) (wr_up (wr c 69 F) 70 H (((14 * y) + k0) + 1) ((H (((14 * y) + k0) + 1)) + (F ((14 * x) + k0))))))) ?_
        replace hv := hv.2
        refine sw_aload_n (dX9_timesLetter_1.at 32 rfl) rfl rfl ?_
        refine sw_getR (dX9_timesLetter_1.at 33 rfl) fp_X9_77 (S_lt 49 (by decide)) (S_49 nw nx g) rfl rfl ?_
        refine sw_bipush (dX9_timesLetter_1.at 34 rfl) (by decide) ?_
        refine sw_iload_n (dX9_timesLetter_1.at 35 rfl) rfl rfl ?_
        refine sw_imul (dX9_timesLetter_1.at 36 rfl) ?_
        refine sw_topI (y := ((14 * x : Nat) : Int)) (by first | rfl | (congr 1)) ?_
        refine sw_iload (dX9_timesLetter_1.at 37 rfl) rfl ?_
        refine sw_iadd (dX9_timesLetter_1.at 38 rfl) ?_
        refine sw_topI (y := (((14 * x) + k0 : Nat) : Int)) (by first | rfl | (congr 1)) ?_
        refine sw_iconst (dX9_timesLetter_1.at 39 rfl) ?_
        refine sw_iadd (dX9_timesLetter_1.at 40 rfl) ?_
        refine sw_topI (y := ((((14 * x) + k0) + 1 : Nat) : Int)) (by first | rfl | (congr 1)) ?_
        refine sw_dup2 (dX9_timesLetter_1.at 41 rfl) (fun _ h => by cases h) (fun _ h => by cases h) ?_
        refine sw_laldN (((14 * x) + k0) + 1) (w := (u1 H (((14 * y) + k0) + 1) ((H (((14 * y) + k0) + 1)) + (F ((14 * x) + k0)))) (((14 * x) + k0) + 1)) (dX9_timesLetter_1.at 42 rfl) (S_lt 70 (by decide)) (S_70 nw nx g) (by decide) hv.1 rfl ?_
        replace hv := hv.2
        refine sw_lload (dX9_timesLetter_1.at 43 rfl) rfl ?_
        refine sw_ladd (dX9_timesLetter_1.at 44 rfl) ?_
        refine sw_lastN (((14 * x) + k0) + 1) (dX9_timesLetter_1.at 45 rfl) (S_lt 70 (by decide)) (S_70 nw nx g) (by decide) hv.1 ?_
        refine SW.cg (M' := (S nw nx g, 78 + gn, (wr (wr (wr c 69 F) 70 (u1 (u1 H (((14 * y) + k0) + 1) ((H (((14 * y) + k0) + 1)) + (F ((14 * x) + k0)))) (((14 * x) + k0) + 1) (((u1 H (((14 * y) + k0) + 1) ((H (((14 * y) + k0) + 1)) + (F ((14 * x) + k0)))) (((14 * x) + k0) + 1)) + (F ((14 * x) + k0))))) 61 s))) (congrArg (fun m => (S nw nx g, 78 + gn, m)) ((wr_up_in (wr (wr c 69 F) 70 (u1 H (((14 * y) + k0) + 1) ((H (((14 * y) + k0) + 1)) + (F ((14 * x) + k0))))) 61 s 70 (((14 * x) + k0) + 1) (((u1 H (((14 * y) + k0) + 1) ((H (((14 * y) + k0) + 1)) + (F ((14 * x) + k0)))) (((14 * x) + k0) + 1)) + (F ((14 * x) + k0))) (by decide)).trans (congrArg (fun m => wr m 61 s) (wr_up (wr c 69 F) 70 (u1 H (((14 * y) + k0) + 1) ((H (((14 * y) + k0) + 1)) + (F ((14 * x) + k0)))) (((14 * x) + k0) + 1) (((u1 H (((14 * y) + k0) + 1) ((H (((14 * y) + k0) + 1)) + (F ((14 * x) + k0)))) (((14 * x) + k0) + 1)) + (F ((14 * x) + k0))))))) ?_
        replace hv := hv.2
        refine sw_aload_n (dX9_timesLetter_1.at 46 rfl) rfl rfl ?_
        refine sw_getR (dX9_timesLetter_1.at 47 rfl) fp_X9_77 (S_lt 49 (by decide)) (S_49 nw nx g) rfl rfl ?_
        refine sw_bipush (dX9_timesLetter_1.at 48 rfl) (by decide) ?_
        refine sw_iload_n (dX9_timesLetter_1.at 49 rfl) rfl rfl ?_
        refine sw_imul (dX9_timesLetter_2.at 0 rfl) ?_
        refine sw_topI (y := ((14 * x : Nat) : Int)) (by first | rfl | (congr 1)) ?_
        refine sw_iload (dX9_timesLetter_2.at 1 rfl) rfl ?_
        refine sw_iadd (dX9_timesLetter_2.at 2 rfl) ?_
        refine sw_topI (y := (((14 * x) + k0 : Nat) : Int)) (by first | rfl | (congr 1)) ?_
        refine sw_dup2 (dX9_timesLetter_2.at 3 rfl) (fun _ h => by cases h) (fun _ h => by cases h) ?_
        refine sw_laldN ((14 * x) + k0) (w := (u1 (u1 H (((14 * y) + k0) + 1) ((H (((14 * y) + k0) + 1)) + (F ((14 * x) + k0)))) (((14 * x) + k0) + 1) (((u1 H (((14 * y) + k0) + 1) ((H (((14 * y) + k0) + 1)) + (F ((14 * x) + k0)))) (((14 * x) + k0) + 1)) + (F ((14 * x) + k0)))) ((14 * x) + k0)) (dX9_timesLetter_2.at 4 rfl) (S_lt 70 (by decide)) (S_70 nw nx g) (by decide) hv.1 rfl ?_
        replace hv := hv.2
        refine sw_lload (dX9_timesLetter_2.at 5 rfl) rfl ?_
        refine sw_lsub (dX9_timesLetter_2.at 6 rfl) ?_
        refine sw_lastN ((14 * x) + k0) (dX9_timesLetter_2.at 7 rfl) (S_lt 70 (by decide)) (S_70 nw nx g) (by decide) hv.1 ?_
        refine SW.cg (M' := (S nw nx g, 78 + gn, (wr (wr (wr c 69 F) 70 (u1 (u1 (u1 H (((14 * y) + k0) + 1) ((H (((14 * y) + k0) + 1)) + (F ((14 * x) + k0)))) (((14 * x) + k0) + 1) (((u1 H (((14 * y) + k0) + 1) ((H (((14 * y) + k0) + 1)) + (F ((14 * x) + k0)))) (((14 * x) + k0) + 1)) + (F ((14 * x) + k0)))) ((14 * x) + k0) (((u1 (u1 H (((14 * y) + k0) + 1) ((H (((14 * y) + k0) + 1)) + (F ((14 * x) + k0)))) (((14 * x) + k0) + 1) (((u1 H (((14 * y) + k0) + 1) ((H (((14 * y) + k0) + 1)) + (F ((14 * x) + k0)))) (((14 * x) + k0) + 1)) + (F ((14 * x) + k0)))) ((14 * x) + k0)) - (F ((14 * x) + k0))))) 61 s))) (congrArg (fun m => (S nw nx g, 78 + gn, m)) ((wr_up_in (wr (wr c 69 F) 70 (u1 (u1 H (((14 * y) + k0) + 1) ((H (((14 * y) + k0) + 1)) + (F ((14 * x) + k0)))) (((14 * x) + k0) + 1) (((u1 H (((14 * y) + k0) + 1) ((H (((14 * y) + k0) + 1)) + (F ((14 * x) + k0)))) (((14 * x) + k0) + 1)) + (F ((14 * x) + k0))))) 61 s 70 ((14 * x) + k0) (((u1 (u1 H (((14 * y) + k0) + 1) ((H (((14 * y) + k0) + 1)) + (F ((14 * x) + k0)))) (((14 * x) + k0) + 1) (((u1 H (((14 * y) + k0) + 1) ((H (((14 * y) + k0) + 1)) + (F ((14 * x) + k0)))) (((14 * x) + k0) + 1)) + (F ((14 * x) + k0)))) ((14 * x) + k0)) - (F ((14 * x) + k0))) (by decide)).trans (congrArg (fun m => wr m 61 s) (wr_up (wr c 69 F) 70 (u1 (u1 H (((14 * y) + k0) + 1) ((H (((14 * y) + k0) + 1)) + (F ((14 * x) + k0)))) (((14 * x) + k0) + 1) (((u1 H (((14 * y) + k0) + 1) ((H (((14 * y) + k0) + 1)) + (F ((14 * x) + k0)))) (((14 * x) + k0) + 1)) + (F ((14 * x) + k0)))) ((14 * x) + k0) (((u1 (u1 H (((14 * y) + k0) + 1) ((H (((14 * y) + k0) + 1)) + (F ((14 * x) + k0)))) (((14 * x) + k0) + 1) (((u1 H (((14 * y) + k0) + 1) ((H (((14 * y) + k0) + 1)) + (F ((14 * x) + k0)))) (((14 * x) + k0) + 1)) + (F ((14 * x) + k0)))) ((14 * x) + k0)) - (F ((14 * x) + k0))))))) ?_
        replace hv := hv.2
        refine sw_iinc (lo' := [some (vr (49)), some (vi (((l : Nat) : Int))), some (vi (((x : Nat) : Int))), some (vi (((y : Nat) : Int))), some (vi (((k0 + 1 : Nat) : Int))), some (vl (F ((14 * x) + k0))), none]) (dX9_timesLetter_2.at 8 rfl) rfl (by decide) rfl ?_
        refine sw_goto (tgt := 46) (dX9_timesLetter_2.at 9 rfl) (by decide) ?_
        exact sw_mask (bs := [true, true, true, true, true, false, false]) hv
      · replace hv := hv.2.2.2 q
        refine sw_aload_n (dX9_timesLetter_1.at 5 rfl) rfl rfl ?_
        refine sw_getR (dX9_timesLetter_1.at 6 rfl) fp_X9_77 (S_lt 49 (by decide)) (S_49 nw nx g) rfl rfl ?_
        refine sw_bipush (dX9_timesLetter_1.at 7 rfl) (by decide) ?_
        refine sw_iload_n (dX9_timesLetter_1.at 8 rfl) rfl rfl ?_
        refine sw_imul (dX9_timesLetter_1.at 9 rfl) ?_
        refine sw_topI (y := ((14 * y : Nat) : Int)) (by first | rfl | (congr 1)) ?_
        refine sw_iload (dX9_timesLetter_1.at 10 rfl) rfl ?_
        refine sw_iadd (dX9_timesLetter_1.at 11 rfl) ?_
        refine sw_topI (y := (((14 * y) + k0 : Nat) : Int)) (by first | rfl | (congr 1)) ?_
        refine sw_dup2 (dX9_timesLetter_1.at 12 rfl) (fun _ h => by cases h) (fun _ h => by cases h) ?_
        refine sw_laldN ((14 * y) + k0) (w := H ((14 * y) + k0)) (dX9_timesLetter_1.at 13 rfl) (S_lt 70 (by decide)) (S_70 nw nx g) (by decide) hv.1 rfl ?_
        replace hv := hv.2
        refine sw_lload (dX9_timesLetter_1.at 14 rfl) rfl ?_
        refine sw_ladd (dX9_timesLetter_1.at 15 rfl) ?_
        refine sw_lastN ((14 * y) + k0) (dX9_timesLetter_1.at 16 rfl) (S_lt 70 (by decide)) (S_70 nw nx g) (by decide) hv.1 ?_
        refine SW.cg (M' := (S nw nx g, 78 + gn, (wr (wr (wr c 69 F) 70 (u1 H ((14 * y) + k0) ((H ((14 * y) + k0)) + (F ((14 * x) + k0))))) 61 s))) (congrArg (fun m => (S nw nx g, 78 + gn, m)) ((wr_up_in (wr (wr c 69 F) 70 H) 61 s 70 ((14 * y) + k0) ((H ((14 * y) + k0)) + (F ((14 * x) + k0))) (by decide)).trans (congrArg (fun m => wr m 61 s) (wr_up (wr c 69 F) 70 H ((14 * y) + k0) ((H ((14 * y) + k0)) + (F ((14 * x) + k0))))))) ?_
        replace hv := hv.2
        refine sw_goto (tgt := 167) (dX9_timesLetter_1.at 17 rfl) (by decide) ?_
        refine sw_iinc (lo' := [some (vr (49)), some (vi (((l : Nat) : Int))), some (vi (((x : Nat) : Int))), some (vi (((y : Nat) : Int))), some (vi (((k0 + 1 : Nat) : Int))), some (vl (F ((14 * x) + k0))), none]) (dX9_timesLetter_2.at 8 rfl) rfl (by decide) rfl ?_
        refine sw_goto (tgt := 46) (dX9_timesLetter_2.at 9 rfl) (by decide) ?_
        exact sw_mask (bs := [true, true, true, true, true, false, false]) hv
    · replace hv := hv.2.2 q
      refine sw_goto (tgt := 167) (dX9_timesLetter_0.at 45 rfl) (by decide) ?_
      refine sw_iinc (lo' := [some (vr (49)), some (vi (((l : Nat) : Int))), some (vi (((x : Nat) : Int))), some (vi (((y : Nat) : Int))), some (vi (((k0 + 1 : Nat) : Int))), some (vl (F ((14 * x) + k0))), none]) (dX9_timesLetter_2.at 8 rfl) rfl (by decide) rfl ?_
      refine sw_goto (tgt := 46) (dX9_timesLetter_2.at 9 rfl) (by decide) ?_
      exact sw_mask (bs := [true, true, true, true, true, false, false]) hv

set_option maxHeartbeats 2000000 in
set_option maxRecDepth 20000 in
theorem g_X9_timesLetter_24 {G : GG} {j nw nx gn : Nat} {g : Nat → Sh} {c : Nat → Nat → Int} {post : Option AV → AM → Prop} {l : Nat} {P : GD} {F : Nat → Int} {H : Nat → Int} {s : Nat → Int} {x : Nat} (hM : ML c P) (hV : GV P)  (hv : (x < 2147483648) ∧ (gN P < 2147483648) ∧ (((gN P ≤ x) → SW G (j + 1) mX9_timesLetter 181 [some (vr (49)), some (vi (((l : Nat) : Int))), some (vi (0)), none, none, none, none] [] (S nw nx g, 78 + gn, (wr (wr (wr c 69 F) 70 H) 61 s)) B0 post) ∧ ((¬ (gN P ≤ x)) → (x < gN P) ∧ (l < gR P) ∧ (SW G (j + 1) mX9_timesLetter 46 [some (vr (49)), some (vi (((l : Nat) : Int))), some (vi (((x : Nat) : Int))), some (vi (((gS P x l : Nat) : Int))), some (vi (0)), none, none] [] (S nw nx g, 78 + gn, (wr (wr (wr c 69 F) 70 H) 61 s)) B0 post)))) :
    SW G (j + 1) mX9_timesLetter 24 [some (vr (49)), some (vi (((l : Nat) : Int))), some (vi (((x : Nat) : Int))), none, none, none, none] [] (S nw nx g, 78 + gn, (wr (wr (wr c 69 F) 70 H) 61 s)) B0 post := by
  refine sw_iload_n (dX9_timesLetter_0.at 14 rfl) rfl rfl ?_
  refine sw_aload_n (dX9_timesLetter_0.at 15 rfl) rfl rfl ?_
  refine sw_getIE (w := ((gN P : Nat) : Int)) (dX9_timesLetter_0.at 16 rfl) fp_X9_196 (S_lt 49 (by decide)) (S_49 nw nx g) rfl ((wr_off (c := (wr (wr c 69 F) 70 H)) (a := 61) (f := s) (i := 49) (k := 22) (by decide)).trans ((wr_off (c := (wr c 69 F)) (a := 70) (f := H) (i := 49) (k := 22) (by decide)).trans ((wr_off (c := c) (a := 69) (f := F) (i := 49) (k := 22) (by decide)).trans hM.1.2.1))) ?_
  refine sw_icmpN_ge x (gN P) (tgt := 179) (dX9_timesLetter_0.at 17 rfl) (by decide) hv.1 hv.2.1 (fun q => ?_) (fun q => ?_)
  · replace hv := hv.2.2.1 q
    refine sw_iconst (dX9_timesLetter_2.at 12 rfl) ?_
    refine sw_istore_n (lo' := [some (vr (49)), some (vi (((l : Nat) : Int))), some (vi (0)), none, none, none, none]) (dX9_timesLetter_2.at 13 rfl) rfl (by decide) rfl ?_
    exact hv
  · replace hv := hv.2.2.2 q
    refine sw_aload_n (dX9_timesLetter_0.at 18 rfl) rfl rfl ?_
    refine sw_getR (dX9_timesLetter_0.at 19 rfl) fp_X9_26 (S_lt 49 (by decide)) (S_49 nw nx g) rfl rfl ?_
    refine sw_iconst (dX9_timesLetter_0.at 20 rfl) ?_
    refine sw_iload_n (dX9_timesLetter_0.at 21 rfl) rfl rfl ?_
    refine sw_imul (dX9_timesLetter_0.at 22 rfl) ?_
    refine sw_topI (y := ((5 * x : Nat) : Int)) (by first | rfl | (congr 1)) ?_
    refine sw_iload_n (dX9_timesLetter_0.at 23 rfl) rfl rfl ?_
    refine sw_iadd (dX9_timesLetter_0.at 24 rfl) ?_
    refine sw_topI (y := (((5 * x) + l : Nat) : Int)) (by first | rfl | (congr 1)) ?_
    refine sw_ialdN ((5 * x) + l) (w := ((gS P x l : Nat) : Int)) (dX9_timesLetter_0.at 25 rfl) (S_lt 54 (by decide)) (S_54 nw nx g) (by decide) (GV_5 hV hv.1 hv.2.1) (ML_S (ML_SC hM (SC_wr (SC_wr (SC_wr SC_rf (a := 69) (f := F) (by decide)) (a := 70) (f := H) (by decide)) (a := 61) (f := s) (by decide))) hv.1 hv.2.1) ?_
    replace hv := hv.2.2
    refine sw_istore_n (lo' := [some (vr (49)), some (vi (((l : Nat) : Int))), some (vi (((x : Nat) : Int))), some (vi (((gS P x l : Nat) : Int))), none, none, none]) (dX9_timesLetter_0.at 26 rfl) rfl (by decide) rfl ?_
    refine sw_iconst (dX9_timesLetter_0.at 27 rfl) ?_
    refine sw_istore (lo' := [some (vr (49)), some (vi (((l : Nat) : Int))), some (vi (((x : Nat) : Int))), some (vi (((gS P x l : Nat) : Int))), some (vi (0)), none, none]) (dX9_timesLetter_0.at 28 rfl) (by decide) rfl ?_
    exact hv

set_option maxHeartbeats 2000000 in
set_option maxRecDepth 20000 in
theorem g_X9_timesLetter_2 {G : GG} {j nw nx gn : Nat} {g : Nat → Sh} {c : Nat → Nat → Int} {post : Option AV → AM → Prop} {l : Nat} {F : Nat → Int} {H : Nat → Int} {s : Nat → Int} {x : Nat}  (hv : (x < 2147483648) ∧ (((840 ≤ x) → SW G (j + 1) mX9_timesLetter 24 [some (vr (49)), some (vi (((l : Nat) : Int))), some (vi (0)), none, none, none, none] [] (S nw nx g, 78 + gn, (wr (wr (wr c 69 F) 70 H) 61 s)) B0 post) ∧ ((¬ (840 ≤ x)) → (x < 840) ∧ (SW G (j + 1) mX9_timesLetter 2 [some (vr (49)), some (vi (((l : Nat) : Int))), some (vi (((x + 1 : Nat) : Int))), none, none, none, none] [] (S nw nx g, 78 + gn, (wr (wr (wr c 69 F) 70 (u1 H x 0)) 61 s)) B0 post)))) :
    SW G (j + 1) mX9_timesLetter 2 [some (vr (49)), some (vi (((l : Nat) : Int))), some (vi (((x : Nat) : Int))), none, none, none, none] [] (S nw nx g, 78 + gn, (wr (wr (wr c 69 F) 70 H) 61 s)) B0 post := by
  refine sw_iload_n (dX9_timesLetter_0.at 2 rfl) rfl rfl ?_
  refine sw_sipush (dX9_timesLetter_0.at 3 rfl) (by decide) ?_
  refine sw_icmpN_ge x 840 (tgt := 22) (dX9_timesLetter_0.at 4 rfl) (by decide) hv.1 (by decide) (fun q => ?_) (fun q => ?_)
  · replace hv := hv.2.1 q
    refine sw_iconst (dX9_timesLetter_0.at 12 rfl) ?_
    refine sw_istore_n (lo' := [some (vr (49)), some (vi (((l : Nat) : Int))), some (vi (0)), none, none, none, none]) (dX9_timesLetter_0.at 13 rfl) rfl (by decide) rfl ?_
    exact hv
  · replace hv := hv.2.2 q
    refine sw_aload_n (dX9_timesLetter_0.at 5 rfl) rfl rfl ?_
    refine sw_getR (dX9_timesLetter_0.at 6 rfl) fp_X9_77 (S_lt 49 (by decide)) (S_49 nw nx g) rfl rfl ?_
    refine sw_iload_n (dX9_timesLetter_0.at 7 rfl) rfl rfl ?_
    refine sw_lconst (z := 0) (dX9_timesLetter_0.at 8 rfl) (by decide) ?_
    refine sw_lastN x (dX9_timesLetter_0.at 9 rfl) (S_lt 70 (by decide)) (S_70 nw nx g) (by decide) hv.1 ?_
    refine SW.cg (M' := (S nw nx g, 78 + gn, (wr (wr (wr c 69 F) 70 (u1 H x 0)) 61 s))) (congrArg (fun m => (S nw nx g, 78 + gn, m)) ((wr_up_in (wr (wr c 69 F) 70 H) 61 s 70 x 0 (by decide)).trans (congrArg (fun m => wr m 61 s) (wr_up (wr c 69 F) 70 H x 0)))) ?_
    replace hv := hv.2
    refine sw_iinc (lo' := [some (vr (49)), some (vi (((l : Nat) : Int))), some (vi (((x + 1 : Nat) : Int))), none, none, none, none]) (dX9_timesLetter_0.at 10 rfl) rfl (by decide) rfl ?_
    refine sw_goto (tgt := 2) (dX9_timesLetter_0.at 11 rfl) (by decide) ?_
    exact hv

set_option maxHeartbeats 2000000 in
set_option maxRecDepth 20000 in
theorem g_X9_timesLetter_181 {G : GG} {j nw nx gn : Nat} {g : Nat → Sh} {c : Nat → Nat → Int} {post : Option AV → AM → Prop} {l : Nat} {F : Nat → Int} {H : Nat → Int} {s : Nat → Int} {x : Nat}  (hv : (x < 2147483648) ∧ (((840 ≤ x) → post none (S nw nx g, 78 + gn, (wr (wr (wr c 69 F) 70 H) 61 s))) ∧ ((¬ (840 ≤ x)) → (x < 840) ∧ ((x < 840) ∧ (SW G (j + 1) mX9_timesLetter 181 [some (vr (49)), some (vi (((l : Nat) : Int))), some (vi (((x + 1 : Nat) : Int))), none, none, none, none] [] (S nw nx g, 78 + gn, (wr (wr (wr c 69 (u1 F x (H x))) 70 H) 61 s)) B0 post))))) :
    SW G (j + 1) mX9_timesLetter 181 [some (vr (49)), some (vi (((l : Nat) : Int))), some (vi (((x : Nat) : Int))), none, none, none, none] [] (S nw nx g, 78 + gn, (wr (wr (wr c 69 F) 70 H) 61 s)) B0 post := by
  refine sw_iload_n (dX9_timesLetter_2.at 14 rfl) rfl rfl ?_
  refine sw_sipush (dX9_timesLetter_2.at 15 rfl) (by decide) ?_
  refine sw_icmpN_ge x 840 (tgt := 206) (dX9_timesLetter_2.at 16 rfl) (by decide) hv.1 (by decide) (fun q => ?_) (fun q => ?_)
  · replace hv := hv.2.1 q
    exact sw_vret (dX9_timesLetter_2.at 27 rfl) rfl (Nat.le_refl _) (Nat.le_refl _) hv
  · replace hv := hv.2.2 q
    refine sw_aload_n (dX9_timesLetter_2.at 17 rfl) rfl rfl ?_
    refine sw_getR (dX9_timesLetter_2.at 18 rfl) fp_X9_74 (S_lt 49 (by decide)) (S_49 nw nx g) rfl rfl ?_
    refine sw_iload_n (dX9_timesLetter_2.at 19 rfl) rfl rfl ?_
    refine sw_aload_n (dX9_timesLetter_2.at 20 rfl) rfl rfl ?_
    refine sw_getR (dX9_timesLetter_2.at 21 rfl) fp_X9_77 (S_lt 49 (by decide)) (S_49 nw nx g) rfl rfl ?_
    refine sw_iload_n (dX9_timesLetter_2.at 22 rfl) rfl rfl ?_
    refine sw_laldN x (w := H x) (dX9_timesLetter_2.at 23 rfl) (S_lt 70 (by decide)) (S_70 nw nx g) (by decide) hv.1 rfl ?_
    replace hv := hv.2
    refine sw_lastN x (dX9_timesLetter_2.at 24 rfl) (S_lt 69 (by decide)) (S_69 nw nx g) (by decide) hv.1 ?_
    refine SW.cg (M' := (S nw nx g, 78 + gn, (wr (wr (wr c 69 (u1 F x (H x))) 70 H) 61 s))) (congrArg (fun m => (S nw nx g, 78 + gn, m)) ((wr_up_in (wr (wr c 69 F) 70 H) 61 s 69 x (H x) (by decide)).trans (congrArg (fun m => wr m 61 s) ((wr_up_in (wr c 69 F) 70 H 69 x (H x) (by decide)).trans (congrArg (fun m => wr m 70 H) (wr_up c 69 F x (H x))))))) ?_
    replace hv := hv.2
    refine sw_iinc (lo' := [some (vr (49)), some (vi (((l : Nat) : Int))), some (vi (((x + 1 : Nat) : Int))), none, none, none, none]) (dX9_timesLetter_2.at 25 rfl) rfl (by decide) rfl ?_
    refine sw_goto (tgt := 181) (dX9_timesLetter_2.at 26 rfl) (by decide) ?_
    exact hv

set_option maxHeartbeats 2000000 in
set_option maxRecDepth 20000 in
theorem g_X9_timesLetter_0 {G : GG} {j nw nx gn : Nat} {g : Nat → Sh} {c : Nat → Nat → Int} {post : Option AV → AM → Prop} {l : Nat} {F : Nat → Int} {H : Nat → Int} {s : Nat → Int}  (hv : SW G (j + 1) mX9_timesLetter 2 [some (vr (49)), some (vi (((l : Nat) : Int))), some (vi (0)), none, none, none, none] [] (S nw nx g, 78 + gn, (wr (wr (wr c 69 F) 70 H) 61 s)) B0 post) :
    SW G (j + 1) mX9_timesLetter 0 [some (vr (49)), some (vi (((l : Nat) : Int))), none, none, none, none, none] [] (S nw nx g, 78 + gn, (wr (wr (wr c 69 F) 70 H) 61 s)) B0 post := by
  refine sw_iconst (dX9_timesLetter_0.at 0 rfl) ?_
  refine sw_istore_n (lo' := [some (vr (49)), some (vi (((l : Nat) : Int))), some (vi (0)), none, none, none, none]) (dX9_timesLetter_0.at 1 rfl) rfl (by decide) rfl ?_
  exact hv

set_option maxHeartbeats 8000000 in
theorem lt_46 {G : GG} {j nw nx gn : Nat} {g : Nat → Sh} {c : Nat → Nat → Int} {post : Option AV → AM → Prop} {P : GD} {l x : Nat} {F s : Nat → Int} {A : Nat → Nat → Int} (hM : ML c P) (hV : GV P) (hC : GC P) (hs : hSi P) (hl : l < gR P) (hx : x < gN P) (hF : ∀ k, k < 14 → F (14 * x + k) = A x k) (hA : ∀ k, 13 ≤ k → A x k = 0) (hb : ∀ k, -9223372036854775808 ≤ A x k ∧ A x k < 9223372036854775808) (K : ∀ H : Nat → Int, (∀ q r, q < gN P → r < 14 → H (14 * q + r) = sumN (fun a => sumN (con P l A q r a) 14) (x + 1)) → SW G (j + 1) mX9_timesLetter 24 [some (vr (49)), some (vi (((l : Nat) : Int))), some (vi (((x + 1 : Nat) : Int))), none, none, none, none] [] (S nw nx g, 78 + gn, (wr (wr (wr c 69 F) 70 H) 61 s)) B0 post) : ∀ (k k0 : Nat) (H : Nat → Int), k0 + k = 14 → (∀ q r, q < gN P → r < 14 → H (14 * q + r) = sumN (fun a => sumN (con P l A q r a) 14) x + sumN (con P l A q r x) k0) → SW G (j + 1) mX9_timesLetter 46 [some (vr (49)), some (vi (((l : Nat) : Int))), some (vi (((x : Nat) : Int))), some (vi (((gS P x l : Nat) : Int))), some (vi (((k0 : Nat) : Int))), none, none] [] (S nw nx g, 78 + gn, (wr (wr (wr c 69 F) 70 H) 61 s)) B0 post := by
  have h60 := GV_N hV
  have hS := hV.2.2.2.1 x l hx hl
  have l1 := (hV.2.2.1 x hx).1
  have l2 := (hV.2.2.1 _ hS).1
  have d9 := (hC.2.2.2.1 x l hx hl).1
  have t9 := hC.2.2.2.2.1 x l hx hl
  have hne : gS P x l ≠ x := fun e => by rw [e] at t9; omega
  intro k
  induction k with
  | zero =>
    intro k0 H hk hH
    have e : k0 = 14 := by omega
    subst e
    have K2 := K H (fun q r hq hr => by rw [hH q r hq hr]; rfl)
    refine g_X9_timesLetter_46 hM hV ?_
    refine ⟨?_, ⟨fun q => ?_, fun q => ⟨?_, ⟨?_, ⟨fun q => ⟨?_, ⟨?_, ⟨?_, ?_, ⟨fun q => ⟨?_, ⟨?_, ⟨?_, ⟨?_, ⟨?_, ⟨?_, ?_⟩⟩⟩⟩⟩⟩, fun q => ⟨?_, ⟨?_, ?_⟩⟩⟩⟩⟩⟩, fun q => ?_⟩⟩⟩⟩⟩
    all_goals first | omega | exact K2 | (exfalso; omega)
  | succ k ih =>
    intro k0 H hk hH
    have f9 := hF k0 (by omega)
    have b9 := hb k0
    refine g_X9_timesLetter_46 hM hV ?_
    rw [f9]
    by_cases h0 : A x k0 = 0
    · have n9 := ih (k0 + 1) H (by omega) (fun q r hq hr => by
        rw [hH q r hq hr, sumN]
        have : con P l A q r x k0 = 0 := by rw [con, h0]; simp
        rw [this, Int.add_zero])
      refine ⟨?_, ⟨fun q => ?_, fun q => ⟨?_, ⟨?_, ⟨fun q => ⟨?_, ⟨?_, ⟨?_, ?_, ⟨fun q => ⟨?_, ⟨?_, ⟨?_, ⟨?_, ⟨?_, ⟨?_, ?_⟩⟩⟩⟩⟩⟩, fun q => ⟨?_, ⟨?_, ?_⟩⟩⟩⟩⟩⟩, fun q => ?_⟩⟩⟩⟩⟩
      all_goals first | omega | assumption | (exfalso; omega) | exact n9 | (exfalso; exact absurd h0 (by assumption))
    · have hk13 : k0 < 13 := by
        apply Classical.byContradiction
        intro q
        exact h0 (hA k0 (by omega))
      by_cases hlt : gL P (gS P x l) < gL P x
      · rw [decide_eq_true hlt] at d9
        have n9 := ih (k0 + 1) (u1 (u1 (u1 H ((14 * gS P x l + k0) + 1) (H ((14 * gS P x l + k0) + 1) + A x k0)) ((14 * x + k0) + 1) (u1 H ((14 * gS P x l + k0) + 1) (H ((14 * gS P x l + k0) + 1) + A x k0) ((14 * x + k0) + 1) + A x k0)) (14 * x + k0) (u1 (u1 H ((14 * gS P x l + k0) + 1) (H ((14 * gS P x l + k0) + 1) + A x k0)) ((14 * x + k0) + 1) (u1 H ((14 * gS P x l + k0) + 1) (H ((14 * gS P x l + k0) + 1) + A x k0) ((14 * x + k0) + 1) + A x k0) (14 * x + k0) - A x k0)) (by omega) (fun q r hq hr => by
          have hc : con P l A q r x k0 = (if q = gS P x l ∧ r = k0 + 1 then A x k0 else 0) + (if q = x ∧ r = k0 + 1 then A x k0 else 0) - (if q = x ∧ r = k0 then A x k0 else 0) := by rw [con, if_pos d9]
          rw [sumN, hc]
          have hh := hH q r hq hr
          by_cases e1 : q = x
          · rw [if_neg (show ¬ (q = gS P x l ∧ r = k0 + 1) from fun h => hne (h.1.symm.trans e1))]
            by_cases e2 : r = k0
            · rw [e1, e2] at hh
              rw [e1, e2, u1_eq, u1_ne (by omega), u1_ne (by omega), hh, if_neg (by omega), if_pos (by omega)]; omega
            · by_cases e3 : r = k0 + 1
              · rw [e1, e3] at hh
                rw [e1, e3, u1_ne (by omega), show 14 * x + (k0 + 1) = (14 * x + k0) + 1 by omega, u1_eq, u1_ne (by omega)]
                rw [show 14 * x + (k0 + 1) = (14 * x + k0) + 1 by omega] at hh
                rw [hh, if_pos (by omega), if_neg (by omega)]; omega
              · rw [u1_ne (by omega), u1_ne (by omega), u1_ne (by omega), hh, if_neg (by omega), if_neg (by omega)]; omega
          · rw [if_neg (show ¬ (q = x ∧ r = k0 + 1) from fun h => e1 h.1), if_neg (show ¬ (q = x ∧ r = k0) from fun h => e1 h.1)]
            rw [u1_ne (by omega), u1_ne (by omega)]
            by_cases e2 : q = gS P x l ∧ r = k0 + 1
            · rw [if_pos e2]
              rw [e2.1, e2.2] at hh
              rw [e2.1, e2.2, show 14 * gS P x l + (k0 + 1) = (14 * gS P x l + k0) + 1 by omega, u1_eq]
              rw [show 14 * gS P x l + (k0 + 1) = (14 * gS P x l + k0) + 1 by omega] at hh
              rw [hh]; omega
            · rw [if_neg e2, u1_ne (by omega), hh]; omega)
        refine ⟨?_, ⟨fun q => ?_, fun q => ⟨?_, ⟨?_, ⟨fun q => ⟨?_, ⟨?_, ⟨?_, ?_, ⟨fun q => ⟨?_, ⟨?_, ⟨?_, ⟨?_, ⟨?_, ⟨?_, ?_⟩⟩⟩⟩⟩⟩, fun q => ⟨?_, ⟨?_, ?_⟩⟩⟩⟩⟩⟩, fun q => ?_⟩⟩⟩⟩⟩
        all_goals first | omega | assumption | (exfalso; omega) | exact n9 | (exfalso; exact absurd (by assumption) h0)
      · rw [decide_eq_false hlt] at d9
        have n9 := ih (k0 + 1) (u1 H (14 * gS P x l + k0) (H (14 * gS P x l + k0) + A x k0)) (by omega) (fun q r hq hr => by
          have hc : con P l A q r x k0 = (if q = gS P x l ∧ r = k0 then A x k0 else 0) := by rw [con, if_neg (by rw [d9]; decide)]
          rw [sumN, hc]
          have hh := hH q r hq hr
          by_cases e2 : q = gS P x l ∧ r = k0
          · rw [if_pos e2]
            rw [e2.1, e2.2] at hh
            rw [e2.1, e2.2, u1_eq, hh]; omega
          · rw [if_neg e2, u1_ne (by omega), hh]; omega)
        refine ⟨?_, ⟨fun q => ?_, fun q => ⟨?_, ⟨?_, ⟨fun q => ⟨?_, ⟨?_, ⟨?_, ?_, ⟨fun q => ⟨?_, ⟨?_, ⟨?_, ⟨?_, ⟨?_, ⟨?_, ?_⟩⟩⟩⟩⟩⟩, fun q => ⟨?_, ⟨?_, ?_⟩⟩⟩⟩⟩⟩, fun q => ?_⟩⟩⟩⟩⟩
        all_goals first | omega | assumption | (exfalso; omega) | exact n9 | (exfalso; exact absurd (by assumption) h0)

