theorem EL_pm {c : Nat → Nat → Int} {tk tf tt rr ll ff : Nat} {pl : Int} {bd : Nat → Nat} {e : Nat} {P : GD} (h : EL c e P) (he : e = 21 ∨ e = 35) : EL (pm c tk tf tt rr ll ff pl bd) e P := by
  refine EL_same h (fun q hq => ?_)
  funext i
  have h1 : e + q ≠ 1 := by omega
  have h3 : e + q ≠ 3 := by omega
  have h4 : e + q ≠ 4 := by omega
  simp [pm, h1, h3, h4]
def alL (nb : Nat → Nat) (r : Nat) : Nat → Nat → Bool
  | 0, _ => true
  | k + 1, i => if r ≤ nb i - 97 then false else alL nb r k (i + 1)
def bhW (P : GD) (nb : Nat → Nat) : Nat → Nat → Nat → Nat
  | 0, _, x => x
  | k + 1, i, x => bhW P nb k (i + 1) (gS P x (nb i - 97))
theorem alL_lt {nb : Nat → Nat} {r : Nat} : ∀ k i, alL nb r k i = true → ∀ q, i ≤ q → q < i + k → nb q - 97 < r := by
  intro k
  induction k with
  | zero => intro i _ q h1 h2; omega
  | succ k ih =>
    intro i h q h1 h2
    unfold alL at h
    split at h
    · exact absurd h (by decide)
    · by_cases e : q = i
      · subst e; omega
      · exact ih (i + 1) h q (by omega) (by omega)
theorem bhW_lt {P : GD} {nb : Nat → Nat} (hV : GV P) : ∀ k i x, x < gN P → (∀ q, i ≤ q → q < i + k → nb q - 97 < gR P) → bhW P nb k i x < gN P := by
  intro k
  induction k with
  | zero => intro i x h _; exact h
  | succ k ih =>
    intro i x h hq
    unfold bhW
    exact ih _ _ (hV.2.2.2.1 x _ h (hq i (Nat.le_refl _) (by omega))) (fun q a b => hq q (by omega) (by omega))
/-- an element's text: fault, place, element -/
def elP (nb : Nat → Nat) (n : Nat) (P : GD) : Nat → Nat → Nat → Nat × Int × Nat
  | 0, _, x => (0, -1, x)
  | k + 1, p, x =>
    if tkK nb n p = 0 then (0, -1, x)
    else if tkK nb n p ≠ 1 then (1, ((tkF nb n p : Nat) : Int), 0)
    else if alL nb (gR P) (tkT nb n p - tkF nb n p) (tkF nb n p) = false then (2, ((tkF nb n p : Nat) : Int), 0)
    else elP nb n P k (tkT nb n p) (bhW P nb (tkT nb n p - tkF nb n p) (tkF nb n p) x)

set_option maxHeartbeats 2000000 in
set_option maxRecDepth 20000 in
theorem g_X7_areLetters_0 {G : GG} {j nw nx gn : Nat} {g : Nat → Sh} {c : Nat → Nat → Int} {post : Option AV → AM → Prop} {r : Nat} {nb : Nat → Nat} {n : Nat} {tk : Nat} {tf : Nat} {tt : Nat} {rr : Nat} {ll : Nat} {ff : Nat} {pl : Int} {bd : Nat → Nat} (hS : c 1 1 = ((n : Nat) : Int)) (hn : n ≤ 300) (hB : ∀ i, nb i < 256) (hT : ∀ i, i < 300 → c 2 i = sb (nb i))  (hv : SW G (j + 0) mX7_areLetters 5 [some (vr (1)), some (vi (((r : Nat) : Int))), some (vi (((tf : Nat) : Int)))] [] (S nw nx g, 78 + gn, (pm c tk tf tt rr ll ff pl bd)) B0 post) :
    SW G (j + 0) mX7_areLetters 0 [some (vr (1)), some (vi (((r : Nat) : Int))), none] [] (S nw nx g, 78 + gn, (pm c tk tf tt rr ll ff pl bd)) B0 post := by
  refine sw_aload_n (dX7_areLetters.at 0 rfl) rfl rfl ?_
  refine sw_getIE (w := ((tf : Nat) : Int)) (dX7_areLetters.at 1 rfl) fp_X7_91 (S_lt 1 (by decide)) (S_1 nw nx g) rfl rfl ?_
  refine sw_istore_n (lo' := [some (vr (1)), some (vi (((r : Nat) : Int))), some (vi (((tf : Nat) : Int)))]) (dX7_areLetters.at 2 rfl) rfl (by decide) rfl ?_
  exact hv

set_option maxHeartbeats 2000000 in
set_option maxRecDepth 20000 in
theorem g_X7_areLetters_5 {G : GG} {j nw nx gn : Nat} {g : Nat → Sh} {c : Nat → Nat → Int} {post : Option AV → AM → Prop} {r : Nat} {nb : Nat → Nat} {n : Nat} {tk : Nat} {tf : Nat} {tt : Nat} {rr : Nat} {ll : Nat} {ff : Nat} {pl : Int} {bd : Nat → Nat} {u : Nat} (hS : c 1 1 = ((n : Nat) : Int)) (hn : n ≤ 300) (hB : ∀ i, nb i < 256) (hT : ∀ i, i < 300 → c 2 i = sb (nb i))  (hv : (u < 2147483648) ∧ (tt < 2147483648) ∧ (((tt ≤ u) → post (some (vi (1))) (S nw nx g, 78 + gn, (pm c tk tf tt rr ll ff pl bd))) ∧ ((¬ (tt ≤ u)) → (u < 300) ∧ (nb u < 128) ∧ ((97 ≤ nb u) ∧ (((nb u) - 97 < 2147483648) ∧ (r < 2147483648) ∧ ((((nb u) - 97 < r) → SW G (j + 0) mX7_areLetters 5 [some (vr (1)), some (vi (((r : Nat) : Int))), some (vi (((u + 1 : Nat) : Int)))] [] (S nw nx g, 78 + gn, (pm c tk tf tt rr ll ff pl bd)) B0 post) ∧ ((¬ ((nb u) - 97 < r)) → post (some (vi (0))) (S nw nx g, 78 + gn, (pm c tk tf tt rr ll ff pl bd))))))))) :
    SW G (j + 0) mX7_areLetters 5 [some (vr (1)), some (vi (((r : Nat) : Int))), some (vi (((u : Nat) : Int)))] [] (S nw nx g, 78 + gn, (pm c tk tf tt rr ll ff pl bd)) B0 post := by
  refine sw_iload_n (dX7_areLetters.at 3 rfl) rfl rfl ?_
  refine sw_aload_n (dX7_areLetters.at 4 rfl) rfl rfl ?_
  refine sw_getIE (w := ((tt : Nat) : Int)) (dX7_areLetters.at 5 rfl) fp_X7_88 (S_lt 1 (by decide)) (S_1 nw nx g) rfl rfl ?_
  refine sw_icmpN_ge u tt (tgt := 34) (dX7_areLetters.at 6 rfl) (by decide) hv.1 hv.2.1 (fun q => ?_) (fun q => ?_)
  · replace hv := hv.2.2.1 q
    refine sw_iconst (dX7_areLetters.at 19 rfl) ?_
    exact sw_zret (dX7_areLetters.at 20 rfl) rfl (by decide) (Nat.le_refl _) (Nat.le_refl _) hv
  · replace hv := hv.2.2.2 q
    refine sw_aload_n (dX7_areLetters.at 7 rfl) rfl rfl ?_
    refine sw_getR (dX7_areLetters.at 8 rfl) fp_X7_94 (S_lt 1 (by decide)) (S_1 nw nx g) rfl rfl ?_
    refine sw_iload_n (dX7_areLetters.at 9 rfl) rfl rfl ?_
    refine sw_baldN u (w := ((nb u : Nat) : Int)) (dX7_areLetters.at 10 rfl) (S_lt 2 (by decide)) (S_2 nw nx g) (by decide) hv.1 ((hT _ hv.1).trans (if_pos hv.2.1)) ?_
    replace hv := hv.2.2
    refine sw_bipush (dX7_areLetters.at 11 rfl) (by decide) ?_
    refine sw_isub (dX7_areLetters.at 12 rfl) ?_
    refine sw_topI (y := (((nb u) - 97 : Nat) : Int)) (congrArg _ (Int.ofNat_sub hv.1).symm) ?_
    replace hv := hv.2
    refine sw_iload_n (dX7_areLetters.at 13 rfl) rfl rfl ?_
    refine sw_icmpN_lt ((nb u) - 97) r (tgt := 28) (dX7_areLetters.at 14 rfl) (by decide) hv.1 hv.2.1 (fun q => ?_) (fun q => ?_)
    · replace hv := hv.2.2.1 q
      refine sw_iinc (lo' := [some (vr (1)), some (vi (((r : Nat) : Int))), some (vi (((u + 1 : Nat) : Int)))]) (dX7_areLetters.at 17 rfl) rfl (by decide) rfl ?_
      refine sw_goto (tgt := 5) (dX7_areLetters.at 18 rfl) (by decide) ?_
      exact hv
    · replace hv := hv.2.2.2 q
      refine sw_iconst (dX7_areLetters.at 15 rfl) ?_
      exact sw_zret (dX7_areLetters.at 16 rfl) rfl (by decide) (Nat.le_refl _) (Nat.le_refl _) hv

set_option maxHeartbeats 4000000 in
theorem lp_X7_areLetters {G : GG} {j nw nx gn : Nat} {g : Nat → Sh} {c : Nat → Nat → Int} {post : Option AV → AM → Prop} {nb : Nat → Nat} {n : Nat} {tk : Nat} {tf : Nat} {tt : Nat} {rr : Nat} {ll : Nat} {ff : Nat} {pl : Int} {bd : Nat → Nat} {r : Nat} (hS : c 1 1 = ((n : Nat) : Int)) (hn : n ≤ 300) (hB : ∀ i, nb i < 256) (hT : ∀ i, i < 300 → c 2 i = sb (nb i)) (p2 : tt ≤ n) (hd : ∀ q, tf ≤ q → q < tt → 97 ≤ nb q ∧ nb q ≤ 122) (p3 : r < 100) : ∀ k u : Nat, u + k = tt → tf ≤ u → post (some (vi (bz (alL nb r k u)))) (S nw nx g, 78 + gn, (pm c tk tf tt rr ll ff pl bd)) → SW G (j + 0) mX7_areLetters 5 [some (vr (1)), some (vi (((r : Nat) : Int))), some (vi (((u : Nat) : Int)))] [] (S nw nx g, 78 + gn, (pm c tk tf tt rr ll ff pl bd)) B0 post := by
  intro k
  induction k with
  | zero =>
    intro u hu hf K
    refine g_X7_areLetters_5 hS hn hB hT ?_
    refine ⟨?_, ?_, ⟨fun q => ?_, fun q => ⟨?_, ?_, ⟨?_, ⟨?_, ?_, ⟨fun q => ?_, fun q => ?_⟩⟩⟩⟩⟩⟩
    all_goals first | omega | exact K | (exfalso; omega)
  | succ k ih =>
    intro u hu hf K
    simp only [alL] at K
    have h1 := hd u hf (by omega)
    refine g_X7_areLetters_5 hS hn hB hT ?_
    by_cases h : r ≤ nb u - 97
    · rw [if_pos h] at K
      refine ⟨?_, ?_, ⟨fun q => ?_, fun q => ⟨?_, ?_, ⟨?_, ⟨?_, ?_, ⟨fun q => ?_, fun q => ?_⟩⟩⟩⟩⟩⟩
      all_goals first | omega | exact K | (exfalso; omega)
    · rw [if_neg h] at K
      refine ⟨?_, ?_, ⟨fun q => ?_, fun q => ⟨?_, ?_, ⟨?_, ⟨?_, ?_, ⟨fun q => ?_, fun q => ?_⟩⟩⟩⟩⟩⟩
      all_goals first | omega | exact ih _ (by omega) (by omega) K | (exfalso; omega)
theorem c_X7_areLetters {G : GG} {j nw nx gn : Nat} {g : Nat → Sh} {c : Nat → Nat → Int} {post : Option AV → AM → Prop} {nb : Nat → Nat} {n : Nat} {tk : Nat} {tf : Nat} {tt : Nat} {rr : Nat} {ll : Nat} {ff : Nat} {pl : Int} {bd : Nat → Nat} {r : Nat} (hS : c 1 1 = ((n : Nat) : Int)) (hn : n ≤ 300) (hB : ∀ i, nb i < 256) (hT : ∀ i, i < 300 → c 2 i = sb (nb i)) (p1 : tf ≤ tt) (p2 : tt ≤ n) (hd : ∀ q, tf ≤ q → q < tt → 97 ≤ nb q ∧ nb q ≤ 122) (p3 : r < 100) (K : post (some (vi (bz (alL nb r (tt - tf) tf)))) (S nw nx g, 78 + gn, (pm c tk tf tt rr ll ff pl bd))) : SM G (j + 1) mX7_areLetters [vr (1), vi (((r : Nat) : Int))] (S nw nx g, 78 + gn, (pm c tk tf tt rr ll ff pl bd)) 0 0 post := by
  refine sm_of wX7_areLetters rfl (Nat.le_of_ble_eq_true rfl) ?_
  refine g_X7_areLetters_0 hS hn hB hT ?_
  exact lp_X7_areLetters hS hn hB hT p2 hd p3 (tt - tf) tf (by omega) (Nat.le_refl _) K

set_option maxHeartbeats 2000000 in
set_option maxRecDepth 20000 in
theorem g_X7_behindWord_0 {G : GG} {j nw nx gn : Nat} {g : Nat → Sh} {c : Nat → Nat → Int} {post : Option AV → AM → Prop} {e : Nat} {x : Nat} (he : e = 21 ∨ e = 35) {nb : Nat → Nat} {n : Nat} {tk : Nat} {tf : Nat} {tt : Nat} {rr : Nat} {ll : Nat} {ff : Nat} {pl : Int} {bd : Nat → Nat} {P : GD} (hS : c 1 1 = ((n : Nat) : Int)) (hn : n ≤ 300) (hB : ∀ i, nb i < 256) (hT : ∀ i, i < 300 → c 2 i = sb (nb i)) (hE : EL c e P) (hV : GV P)  (hv : SW G (j + 1) mX7_behindWord 8 [some (vr (1)), some (vr (e)), none, some (vi (((x : Nat) : Int))), some (vi (((tf : Nat) : Int)))] [] (S nw nx g, 78 + gn, (pm c tk tf tt rr ll ff pl bd)) B0 post) :
    SW G (j + 1) mX7_behindWord 0 [some (vr (1)), some (vr (e)), some (vi (((x : Nat) : Int))), none, none] [] (S nw nx g, 78 + gn, (pm c tk tf tt rr ll ff pl bd)) B0 post := by
  refine sw_iload_n (dX7_behindWord.at 0 rfl) rfl rfl ?_
  refine sw_istore_n (lo' := [some (vr (1)), some (vr (e)), some (vi (((x : Nat) : Int))), some (vi (((x : Nat) : Int))), none]) (dX7_behindWord.at 1 rfl) rfl (by decide) rfl ?_
  refine sw_aload_n (dX7_behindWord.at 2 rfl) rfl rfl ?_
  refine sw_getIE (w := ((tf : Nat) : Int)) (dX7_behindWord.at 3 rfl) fp_X7_91 (S_lt 1 (by decide)) (S_1 nw nx g) rfl rfl ?_
  refine sw_istore (lo' := [some (vr (1)), some (vr (e)), some (vi (((x : Nat) : Int))), some (vi (((x : Nat) : Int))), some (vi (((tf : Nat) : Int)))]) (dX7_behindWord.at 4 rfl) (by decide) rfl ?_
  exact sw_mask (bs := [true, true, false, true, true]) hv

set_option maxHeartbeats 2000000 in
set_option maxRecDepth 20000 in
theorem g_X7_behindWord_8 {G : GG} {j nw nx gn : Nat} {g : Nat → Sh} {c : Nat → Nat → Int} {post : Option AV → AM → Prop} {e : Nat} (he : e = 21 ∨ e = 35) {nb : Nat → Nat} {n : Nat} {tk : Nat} {tf : Nat} {tt : Nat} {rr : Nat} {ll : Nat} {ff : Nat} {pl : Int} {bd : Nat → Nat} {P : GD} {v : Nat} {u : Nat} (hS : c 1 1 = ((n : Nat) : Int)) (hn : n ≤ 300) (hB : ∀ i, nb i < 256) (hT : ∀ i, i < 300 → c 2 i = sb (nb i)) (hE : EL c e P) (hV : GV P)  (hv : (u < 2147483648) ∧ (tt < 2147483648) ∧ (((tt ≤ u) → post (some (vi (((v : Nat) : Int)))) (S nw nx g, 78 + gn, (pm c tk tf tt rr ll ff pl bd))) ∧ ((¬ (tt ≤ u)) → (u < 300) ∧ (nb u < 128) ∧ ((97 ≤ nb u) ∧ ((v < gN P) ∧ (((nb u) - 97) < gR P) ∧ (SW G (j + 1) mX7_behindWord 8 [some (vr (1)), some (vr (e)), none, some (vi (((gS P v ((nb u) - 97) : Nat) : Int))), some (vi (((u + 1 : Nat) : Int)))] [] (S nw nx g, 78 + gn, (pm c tk tf tt rr ll ff pl bd)) B0 post)))))) :
    SW G (j + 1) mX7_behindWord 8 [some (vr (1)), some (vr (e)), none, some (vi (((v : Nat) : Int))), some (vi (((u : Nat) : Int)))] [] (S nw nx g, 78 + gn, (pm c tk tf tt rr ll ff pl bd)) B0 post := by
  refine sw_iload (dX7_behindWord.at 5 rfl) rfl ?_
  refine sw_aload_n (dX7_behindWord.at 6 rfl) rfl rfl ?_
  refine sw_getIE (w := ((tt : Nat) : Int)) (dX7_behindWord.at 7 rfl) fp_X7_88 (S_lt 1 (by decide)) (S_1 nw nx g) rfl rfl ?_
  refine sw_icmpN_ge u tt (tgt := 39) (dX7_behindWord.at 8 rfl) (by decide) hv.1 hv.2.1 (fun q => ?_) (fun q => ?_)
  · replace hv := hv.2.2.1 q
    refine sw_iload_n (dX7_behindWord.at 21 rfl) rfl rfl ?_
    exact sw_iret (dX7_behindWord.at 22 rfl) rfl (Nat.le_refl _) (Nat.le_refl _) hv
  · replace hv := hv.2.2.2 q
    refine sw_aload_n (dX7_behindWord.at 9 rfl) rfl rfl ?_
    refine sw_iload_n (dX7_behindWord.at 10 rfl) rfl rfl ?_
    refine sw_aload_n (dX7_behindWord.at 11 rfl) rfl rfl ?_
    refine sw_getR (dX7_behindWord.at 12 rfl) fp_X7_94 (S_lt 1 (by decide)) (S_1 nw nx g) rfl rfl ?_
    refine sw_iload (dX7_behindWord.at 13 rfl) rfl ?_
    refine sw_baldN u (w := ((nb u : Nat) : Int)) (dX7_behindWord.at 14 rfl) (S_lt 2 (by decide)) (S_2 nw nx g) (by decide) hv.1 ((hT _ hv.1).trans (if_pos hv.2.1)) ?_
    replace hv := hv.2.2
    refine sw_bipush (dX7_behindWord.at 15 rfl) (by decide) ?_
    refine sw_isub (dX7_behindWord.at 16 rfl) ?_
    refine sw_topI (y := (((nb u) - 97 : Nat) : Int)) (congrArg _ (Int.ofNat_sub hv.1).symm) ?_
    replace hv := hv.2
    refine sw_callV (B' := B0) (As := [vi (((v : Nat) : Int)), vi ((((nb u) - 97 : Nat) : Int))]) (mc := 0) (ms := 0) (dX7_behindWord.at 17 rfl) lk_X7_102 (S_e_lt he) (S_e he) rfl rfl (Nat.le_of_ble_eq_true rfl) rfl (Nat.le_refl _) (Nat.le_refl _) ?_
    refine c_X1_byP (e := e) (x := v) (s := ((nb u) - 97)) (j := j + 0) he (EL_pm hE he) hV hv.1 hv.2.1 ?_
    replace hv := hv.2.2
    refine sw_istore_n (lo' := [some (vr (1)), some (vr (e)), none, some (vi (((gS P v ((nb u) - 97) : Nat) : Int))), some (vi (((u : Nat) : Int)))]) (dX7_behindWord.at 18 rfl) rfl (by decide) rfl ?_
    refine sw_iinc (lo' := [some (vr (1)), some (vr (e)), none, some (vi (((gS P v ((nb u) - 97) : Nat) : Int))), some (vi (((u + 1 : Nat) : Int)))]) (dX7_behindWord.at 19 rfl) rfl (by decide) rfl ?_
    refine sw_goto (tgt := 8) (dX7_behindWord.at 20 rfl) (by decide) ?_
    exact hv

set_option maxHeartbeats 4000000 in
theorem lp_X7_behindWord {G : GG} {j nw nx gn : Nat} {g : Nat → Sh} {c : Nat → Nat → Int} {post : Option AV → AM → Prop} {nb : Nat → Nat} {n : Nat} {tk : Nat} {tf : Nat} {tt : Nat} {rr : Nat} {ll : Nat} {ff : Nat} {pl : Int} {bd : Nat → Nat} {P : GD} {e : Nat} (he : e = 21 ∨ e = 35) (hS : c 1 1 = ((n : Nat) : Int)) (hn : n ≤ 300) (hB : ∀ i, nb i < 256) (hT : ∀ i, i < 300 → c 2 i = sb (nb i)) (hE : EL c e P) (hV : GV P) (p2 : tt ≤ n) (hd : ∀ q, tf ≤ q → q < tt → 97 ≤ nb q ∧ nb q ≤ 122) (hl : ∀ q, tf ≤ q → q < tt → nb q - 97 < gR P) : ∀ k u v : Nat, u + k = tt → tf ≤ u → v < gN P → post (some (vi ((bhW P nb k u v : Nat) : Int))) (S nw nx g, 78 + gn, (pm c tk tf tt rr ll ff pl bd)) → SW G (j + 1) mX7_behindWord 8 [some (vr (1)), some (vr (e)), none, some (vi (((v : Nat) : Int))), some (vi (((u : Nat) : Int)))] [] (S nw nx g, 78 + gn, (pm c tk tf tt rr ll ff pl bd)) B0 post := by
  intro k
  induction k with
  | zero =>
    intro u v hu hf hv K
    refine g_X7_behindWord_8 he hS hn hB hT hE hV ?_
    refine ⟨?_, ?_, ⟨fun q => ?_, fun q => ⟨?_, ?_, ⟨?_, ⟨?_, ?_, ?_⟩⟩⟩⟩⟩
    all_goals first | omega | exact K | (exfalso; omega)
  | succ k ih =>
    intro u v hu hf hv K
    simp only [bhW] at K
    have h1 := hd u hf (by omega)
    have h2 := hl u hf (by omega)
    have h3 := hV.2.2.2.1 v _ hv h2
    refine g_X7_behindWord_8 he hS hn hB hT hE hV ?_
    refine ⟨?_, ?_, ⟨fun q => ?_, fun q => ⟨?_, ?_, ⟨?_, ⟨?_, ?_, ?_⟩⟩⟩⟩⟩
    all_goals first | omega | exact ih _ _ (by omega) (by omega) h3 K | (exfalso; omega)
theorem c_X7_behindWord {G : GG} {j nw nx gn : Nat} {g : Nat → Sh} {c : Nat → Nat → Int} {post : Option AV → AM → Prop} {nb : Nat → Nat} {n : Nat} {tk : Nat} {tf : Nat} {tt : Nat} {rr : Nat} {ll : Nat} {ff : Nat} {pl : Int} {bd : Nat → Nat} {P : GD} {e x : Nat} (he : e = 21 ∨ e = 35) (hS : c 1 1 = ((n : Nat) : Int)) (hn : n ≤ 300) (hB : ∀ i, nb i < 256) (hT : ∀ i, i < 300 → c 2 i = sb (nb i)) (hE : EL c e P) (hV : GV P) (p1 : tf ≤ tt) (p2 : tt ≤ n) (hd : ∀ q, tf ≤ q → q < tt → 97 ≤ nb q ∧ nb q ≤ 122) (hl : ∀ q, tf ≤ q → q < tt → nb q - 97 < gR P) (hx : x < gN P) (K : post (some (vi ((bhW P nb (tt - tf) tf x : Nat) : Int))) (S nw nx g, 78 + gn, (pm c tk tf tt rr ll ff pl bd))) : SM G (j + 2) mX7_behindWord [vr (1), vr (e), vi (((x : Nat) : Int))] (S nw nx g, 78 + gn, (pm c tk tf tt rr ll ff pl bd)) 0 0 post := by
  refine sm_of wX7_behindWord rfl (Nat.le_of_ble_eq_true rfl) ?_
  refine g_X7_behindWord_0 he hS hn hB hT hE hV ?_
  exact lp_X7_behindWord he hS hn hB hT hE hV p2 hd hl (tt - tf) tf x (by omega) (Nat.le_refl _) hx K

set_option maxHeartbeats 2000000 in
set_option maxRecDepth 20000 in
theorem g_X7_readElement_0 {G : GG} {j nw nx gn : Nat} {g : Nat → Sh} {c : Nat → Nat → Int} {post : Option AV → AM → Prop} {e : Nat} (he : e = 21 ∨ e = 35) {nb : Nat → Nat} {n : Nat} {tk : Nat} {tf : Nat} {tt : Nat} {rr : Nat} {ll : Nat} {ff : Nat} {pl : Int} {bd : Nat → Nat} {P : GD} (hS : c 1 1 = ((n : Nat) : Int)) (hn : n ≤ 300) (hB : ∀ i, nb i < 256) (hT : ∀ i, i < 300 → c 2 i = sb (nb i)) (hE : EL c e P) (hV : GV P)  (hv : SW G (j + 3) mX7_readElement 19 [some (vr (3)), some (vr (1)), some (vr (e)), some (vi (0)), some (vi (0))] [] (S nw nx g, 78 + gn, (pm c (tkK nb n 0) (tkF nb n 0) (tkT nb n 0) rr ll 0 (-1) bd)) B0 post) :
    SW G (j + 3) mX7_readElement 0 [some (vr (3)), some (vr (1)), some (vr (e)), none, none] [] (S nw nx g, 78 + gn, (pm c tk tf tt rr ll ff pl bd)) B0 post := by
  refine sw_aload_n (dX7_readElement.at 0 rfl) rfl rfl ?_
  refine sw_iconst (dX7_readElement.at 1 rfl) ?_
  refine sw_putI (dX7_readElement.at 2 rfl) fp_X7_27 (S_lt 3 (by decide)) (S_3 nw nx g) rfl ?_
  refine SW.cg (M' := (S nw nx g, 78 + gn, (pm c tk tf tt rr ll 0 pl bd))) (congrArg (fun m => (S nw nx g, 78 + gn, m)) pm_33) ?_
  refine sw_aload_n (dX7_readElement.at 3 rfl) rfl rfl ?_
  refine sw_iconst (dX7_readElement.at 4 rfl) ?_
  refine sw_putI (dX7_readElement.at 5 rfl) fp_X7_15 (S_lt 3 (by decide)) (S_3 nw nx g) rfl ?_
  refine SW.cg (M' := (S nw nx g, 78 + gn, (pm c tk tf tt rr ll 0 (-1) bd))) (congrArg (fun m => (S nw nx g, 78 + gn, m)) pm_34) ?_
  refine sw_iconst (dX7_readElement.at 6 rfl) ?_
  refine sw_istore_n (lo' := [some (vr (3)), some (vr (1)), some (vr (e)), some (vi (0)), none]) (dX7_readElement.at 7 rfl) rfl (by decide) rfl ?_
  refine sw_aload_n (dX7_readElement.at 8 rfl) rfl rfl ?_
  refine sw_callV (B' := B0) (As := []) (mc := 0) (ms := 0) (dX7_readElement.at 9 rfl) lk_X7_22 (S_lt 1 (by decide)) (S_1 nw nx g) rfl rfl (Nat.le_of_ble_eq_true rfl) rfl (Nat.le_refl _) (Nat.le_refl _) ?_
  refine c_X6_readFirst (j := j + 0) hS hn hB hT ?_
  refine sw_iconst (dX7_readElement.at 10 rfl) ?_
  refine sw_istore (lo' := [some (vr (3)), some (vr (1)), some (vr (e)), some (vi (0)), some (vi (0))]) (dX7_readElement.at 11 rfl) (by decide) rfl ?_
  exact hv

set_option maxHeartbeats 2000000 in
set_option maxRecDepth 20000 in
theorem g_X7_readElement_19 {G : GG} {j nw nx gn : Nat} {g : Nat → Sh} {c : Nat → Nat → Int} {post : Option AV → AM → Prop} {e : Nat} (he : e = 21 ∨ e = 35) {nb : Nat → Nat} {n : Nat} {rr : Nat} {ll : Nat} {bd : Nat → Nat} {p : Nat} {P : GD} {v : Nat} {u : Nat} (hS : c 1 1 = ((n : Nat) : Int)) (hn : n ≤ 300) (hB : ∀ i, nb i < 256) (hT : ∀ i, i < 300 → c 2 i = sb (nb i)) (hE : EL c e P) (hV : GV P)  (hv : (u < 2147483648) ∧ (((300 ≤ u) → post (some (vi (((v : Nat) : Int)))) (S nw nx g, 78 + gn, (pm c (tkK nb n p) (tkF nb n p) (tkT nb n p) rr ll 0 (-1) bd))) ∧ ((¬ (300 ≤ u)) → (tkK nb n p < 2147483648) ∧ (((tkK nb n p = 0) → post (some (vi (((v : Nat) : Int)))) (S nw nx g, 78 + gn, (pm c (tkK nb n p) (tkF nb n p) (tkT nb n p) rr ll 0 (-1) bd))) ∧ ((¬ (tkK nb n p = 0)) → (tkK nb n p < 2147483648) ∧ (((tkK nb n p = 1) → ((tkF nb n p) ≤ (tkT nb n p)) ∧ ((tkT nb n p) ≤ n) ∧ (∀ q, (tkF nb n p) ≤ q → q < (tkT nb n p) → 97 ≤ nb q ∧ nb q ≤ 122) ∧ (gR P < 100) ∧ ((((alL nb (gR P) ((tkT nb n p) - (tkF nb n p)) (tkF nb n p)) = true) → ((tkF nb n p) ≤ (tkT nb n p)) ∧ ((tkT nb n p) ≤ n) ∧ (∀ q, (tkF nb n p) ≤ q → q < (tkT nb n p) → 97 ≤ nb q ∧ nb q ≤ 122) ∧ (∀ q, (tkF nb n p) ≤ q → q < (tkT nb n p) → nb q - 97 < gR P) ∧ (v < gN P) ∧ (((tkT nb n p) ≤ n) ∧ (SW G (j + 3) mX7_readElement 19 [some (vr (3)), some (vr (1)), some (vr (e)), some (vi (((bhW P nb ((tkT nb n p) - (tkF nb n p)) (tkF nb n p) v : Nat) : Int))), some (vi (((u + 1 : Nat) : Int)))] [] (S nw nx g, 78 + gn, (pm c (tkK nb n (tkT nb n p)) (tkF nb n (tkT nb n p)) (tkT nb n (tkT nb n p)) rr ll 0 (-1) bd)) B0 post))) ∧ (((alL nb (gR P) ((tkT nb n p) - (tkF nb n p)) (tkF nb n p)) = false) → SW G (j + 3) mX7_readElement 19 [some (vr (3)), some (vr (1)), some (vr (e)), some (vi (((v : Nat) : Int))), some (vi (((u + 1 : Nat) : Int)))] [] (S nw nx g, 78 + gn, (pm c (tkK nb n p) (tkF nb n p) (tkT nb n p) rr ll 2 ((tkF nb n p : Nat) : Int) bd)) B0 post))) ∧ ((¬ (tkK nb n p = 1)) → SW G (j + 3) mX7_readElement 19 [some (vr (3)), some (vr (1)), some (vr (e)), some (vi (((v : Nat) : Int))), some (vi (((u + 1 : Nat) : Int)))] [] (S nw nx g, 78 + gn, (pm c (tkK nb n p) (tkF nb n p) (tkT nb n p) rr ll 1 ((tkF nb n p : Nat) : Int) bd)) B0 post))))))) :
    SW G (j + 3) mX7_readElement 19 [some (vr (3)), some (vr (1)), some (vr (e)), some (vi (((v : Nat) : Int))), some (vi (((u : Nat) : Int)))] [] (S nw nx g, 78 + gn, (pm c (tkK nb n p) (tkF nb n p) (tkT nb n p) rr ll 0 (-1) bd)) B0 post := by
  refine sw_iload (dX7_readElement.at 12 rfl) rfl ?_
  refine sw_sipush (dX7_readElement.at 13 rfl) (by decide) ?_
  refine sw_icmpN_ge u 300 (tgt := 95) (dX7_readElement.at 14 rfl) (by decide) hv.1 (by decide) (fun q => ?_) (fun q => ?_)
  · replace hv := hv.2.1 q
    refine sw_iload_n (dX7_readElement.at 49 rfl) rfl rfl ?_
    exact sw_iret (dX7_readElement.at 50 rfl) rfl (Nat.le_refl _) (Nat.le_refl _) hv
  · replace hv := hv.2.2 q
    refine sw_aload_n (dX7_readElement.at 15 rfl) rfl rfl ?_
    refine sw_getIE (w := 0) (dX7_readElement.at 16 rfl) fp_X7_27 (S_lt 3 (by decide)) (S_3 nw nx g) rfl rfl ?_
    refine sw_if_ne (tgt := 95) (dX7_readElement.at 17 rfl) (by decide) (by decide) (fun q => ?_) (fun q => ?_)
    · exact absurd q (by decide)
    · clear q
      refine sw_aload_n (dX7_readElement.at 18 rfl) rfl rfl ?_
      refine sw_getIE (w := ((tkK nb n p : Nat) : Int)) (dX7_readElement.at 19 rfl) fp_X7_30 (S_lt 1 (by decide)) (S_1 nw nx g) rfl rfl ?_
      refine sw_ifN_eq (tkK nb n p) (tgt := 95) (dX7_readElement.at 20 rfl) (by decide) hv.1 (fun q => ?_) (fun q => ?_)
      · replace hv := hv.2.1 q
        refine sw_iload_n (dX7_readElement.at 49 rfl) rfl rfl ?_
        exact sw_iret (dX7_readElement.at 50 rfl) rfl (Nat.le_refl _) (Nat.le_refl _) hv
      · replace hv := hv.2.2 q
        refine sw_aload_n (dX7_readElement.at 21 rfl) rfl rfl ?_
        refine sw_getIE (w := ((tkK nb n p : Nat) : Int)) (dX7_readElement.at 22 rfl) fp_X7_30 (S_lt 1 (by decide)) (S_1 nw nx g) rfl rfl ?_
        refine sw_iconst (dX7_readElement.at 23 rfl) ?_
        refine sw_icmpN_eq (tkK nb n p) 1 (tgt := 58) (dX7_readElement.at 24 rfl) (by decide) hv.1 (by decide) (fun q => ?_) (fun q => ?_)
        · replace hv := hv.2.1 q
          refine sw_aload_n (dX7_readElement.at 30 rfl) rfl rfl ?_
          refine sw_aload_n (dX7_readElement.at 31 rfl) rfl rfl ?_
          refine sw_getIE (w := ((gR P : Nat) : Int)) (dX7_readElement.at 32 rfl) fp_X7_51 (S_e_lt he) (S_e he) rfl (EL_R (EL_pm hE he)) ?_
          refine sw_callS (post' := post) (B' := B0) (As := [vr (1), vi (((gR P : Nat) : Int))]) (mc := 0) (ms := 0) (dX7_readElement.at 33 rfl) lk_X7_56 rfl rfl (Nat.le_of_ble_eq_true rfl) rfl (Nat.le_refl _) (Nat.le_refl _) ?_
          refine c_X7_areLetters (r := (gR P)) (j := j + 2) hS hn hB hT hv.1 hv.2.1 hv.2.2.1 hv.2.2.2.1 ?_
          replace hv := hv.2.2.2.2
          refine sw_if_ne (tgt := 78) (dX7_readElement.at 34 rfl) (by decide) (bz_rng _) (fun q => ?_) (fun q => ?_)
          · replace hv := hv.1 (bz_1 q)
            refine sw_aload_n (dX7_readElement.at 40 rfl) rfl rfl ?_
            refine sw_aload_n (dX7_readElement.at 41 rfl) rfl rfl ?_
            refine sw_iload_n (dX7_readElement.at 42 rfl) rfl rfl ?_
            refine sw_callS (post' := post) (B' := B0) (As := [vr (1), vr (e), vi (((v : Nat) : Int))]) (mc := 0) (ms := 0) (dX7_readElement.at 43 rfl) lk_X7_60 rfl rfl (Nat.le_of_ble_eq_true rfl) rfl (Nat.le_refl _) (Nat.le_refl _) ?_
            refine c_X7_behindWord (x := v) (j := j + 1) he hS hn hB hT hE hV hv.1 hv.2.1 hv.2.2.1 hv.2.2.2.1 hv.2.2.2.2.1 ?_
            replace hv := hv.2.2.2.2.2
            refine sw_istore_n (lo' := [some (vr (3)), some (vr (1)), some (vr (e)), some (vi (((bhW P nb ((tkT nb n p) - (tkF nb n p)) (tkF nb n p) v : Nat) : Int))), some (vi (((u : Nat) : Int)))]) (dX7_readElement.at 44 rfl) rfl (by decide) rfl ?_
            refine sw_aload_n (dX7_readElement.at 45 rfl) rfl rfl ?_
            refine sw_callV (B' := B0) (As := []) (mc := 0) (ms := 0) (dX7_readElement.at 46 rfl) lk_X7_64 (S_lt 1 (by decide)) (S_1 nw nx g) rfl rfl (Nat.le_of_ble_eq_true rfl) rfl (Nat.le_refl _) (Nat.le_refl _) ?_
            refine c_X6_readNext (j := j + 1) hS hn hB hT hv.1 ?_
            replace hv := hv.2
            refine sw_iinc (lo' := [some (vr (3)), some (vr (1)), some (vr (e)), some (vi (((bhW P nb ((tkT nb n p) - (tkF nb n p)) (tkF nb n p) v : Nat) : Int))), some (vi (((u + 1 : Nat) : Int)))]) (dX7_readElement.at 47 rfl) rfl (by decide) rfl ?_
            refine sw_goto (tgt := 19) (dX7_readElement.at 48 rfl) (by decide) ?_
            exact hv
          · replace hv := hv.2 (bz_n1 q)
            refine sw_aload_n (dX7_readElement.at 35 rfl) rfl rfl ?_
            refine sw_aload_n (dX7_readElement.at 36 rfl) rfl rfl ?_
            refine sw_iconst (dX7_readElement.at 37 rfl) ?_
            refine sw_callV (B' := B0) (As := [vr (1), vi (2)]) (mc := 0) (ms := 0) (dX7_readElement.at 38 rfl) lk_X7_47 (S_lt 3 (by decide)) (S_3 nw nx g) rfl rfl (Nat.le_of_ble_eq_true rfl) rfl (Nat.le_refl _) (Nat.le_refl _) ?_
            refine c_X7_fail (w := 2) (j := j + 2) hS hn hB hT ?_
            refine sw_goto (tgt := 89) (dX7_readElement.at 39 rfl) (by decide) ?_
            refine sw_iinc (lo' := [some (vr (3)), some (vr (1)), some (vr (e)), some (vi (((v : Nat) : Int))), some (vi (((u + 1 : Nat) : Int)))]) (dX7_readElement.at 47 rfl) rfl (by decide) rfl ?_
            refine sw_goto (tgt := 19) (dX7_readElement.at 48 rfl) (by decide) ?_
            exact hv
        · replace hv := hv.2.2 q
          refine sw_aload_n (dX7_readElement.at 25 rfl) rfl rfl ?_
          refine sw_aload_n (dX7_readElement.at 26 rfl) rfl rfl ?_
          refine sw_iconst (dX7_readElement.at 27 rfl) ?_
          refine sw_callV (B' := B0) (As := [vr (1), vi (1)]) (mc := 0) (ms := 0) (dX7_readElement.at 28 rfl) lk_X7_47 (S_lt 3 (by decide)) (S_3 nw nx g) rfl rfl (Nat.le_of_ble_eq_true rfl) rfl (Nat.le_refl _) (Nat.le_refl _) ?_
          refine c_X7_fail (w := 1) (j := j + 2) hS hn hB hT ?_
          refine sw_goto (tgt := 89) (dX7_readElement.at 29 rfl) (by decide) ?_
          refine sw_iinc (lo' := [some (vr (3)), some (vr (1)), some (vr (e)), some (vi (((v : Nat) : Int))), some (vi (((u + 1 : Nat) : Int)))]) (dX7_readElement.at 47 rfl) rfl (by decide) rfl ?_
          refine sw_goto (tgt := 19) (dX7_readElement.at 48 rfl) (by decide) ?_
          exact hv

set_option maxHeartbeats 2000000 in
set_option maxRecDepth 20000 in
theorem g_X7_readElement_19b {G : GG} {j nw nx gn : Nat} {g : Nat → Sh} {c : Nat → Nat → Int} {post : Option AV → AM → Prop} {e : Nat} (he : e = 21 ∨ e = 35) {nb : Nat → Nat} {n : Nat} {tk : Nat} {tf : Nat} {tt : Nat} {rr : Nat} {ll : Nat} {ff : Nat} {pl : Int} {bd : Nat → Nat} {P : GD} {v : Nat} {u : Nat} (hS : c 1 1 = ((n : Nat) : Int)) (hn : n ≤ 300) (hB : ∀ i, nb i < 256) (hT : ∀ i, i < 300 → c 2 i = sb (nb i)) (hE : EL c e P) (hV : GV P)  (hv : (u < 2147483648) ∧ (((300 ≤ u) → post (some (vi (((v : Nat) : Int)))) (S nw nx g, 78 + gn, (pm c tk tf tt rr ll ff pl bd))) ∧ ((¬ (300 ≤ u)) → (ff < 2147483648) ∧ (((ff ≠ 0) → post (some (vi (((v : Nat) : Int)))) (S nw nx g, 78 + gn, (pm c tk tf tt rr ll ff pl bd))) ∧ ((ff = 0) → SW G (j + 3) mX7_readElement 34 [some (vr (3)), some (vr (1)), some (vr (e)), some (vi (((v : Nat) : Int))), some (vi (((u : Nat) : Int)))] [] (S nw nx g, 78 + gn, (pm c tk tf tt rr ll ff pl bd)) B0 post))))) :
    SW G (j + 3) mX7_readElement 19 [some (vr (3)), some (vr (1)), some (vr (e)), some (vi (((v : Nat) : Int))), some (vi (((u : Nat) : Int)))] [] (S nw nx g, 78 + gn, (pm c tk tf tt rr ll ff pl bd)) B0 post := by
  refine sw_iload (dX7_readElement.at 12 rfl) rfl ?_
  refine sw_sipush (dX7_readElement.at 13 rfl) (by decide) ?_
  refine sw_icmpN_ge u 300 (tgt := 95) (dX7_readElement.at 14 rfl) (by decide) hv.1 (by decide) (fun q => ?_) (fun q => ?_)
  · replace hv := hv.2.1 q
    refine sw_iload_n (dX7_readElement.at 49 rfl) rfl rfl ?_
    exact sw_iret (dX7_readElement.at 50 rfl) rfl (Nat.le_refl _) (Nat.le_refl _) hv
  · replace hv := hv.2.2 q
    refine sw_aload_n (dX7_readElement.at 15 rfl) rfl rfl ?_
    refine sw_getIE (w := ((ff : Nat) : Int)) (dX7_readElement.at 16 rfl) fp_X7_27 (S_lt 3 (by decide)) (S_3 nw nx g) rfl rfl ?_
    refine sw_ifN_ne ff (tgt := 95) (dX7_readElement.at 17 rfl) (by decide) hv.1 (fun q => ?_) (fun q => ?_)
    · replace hv := hv.2.1 q
      refine sw_iload_n (dX7_readElement.at 49 rfl) rfl rfl ?_
      exact sw_iret (dX7_readElement.at 50 rfl) rfl (Nat.le_refl _) (Nat.le_refl _) hv
    · replace hv := hv.2.2 q
      exact hv

theorem lp_X7_readElement_b {G : GG} {j nw nx gn : Nat} {g : Nat → Sh} {c : Nat → Nat → Int} {post : Option AV → AM → Prop} {nb : Nat → Nat} {n : Nat} {tk : Nat} {tf : Nat} {tt : Nat} {rr : Nat} {ll : Nat} {ff : Nat} {pl : Int} {bd : Nat → Nat} {P : GD} {e u v : Nat} (he : e = 21 ∨ e = 35) (hS : c 1 1 = ((n : Nat) : Int)) (hn : n ≤ 300) (hB : ∀ i, nb i < 256) (hT : ∀ i, i < 300 → c 2 i = sb (nb i)) (hE : EL c e P) (hV : GV P) (p1 : ff ≠ 0) (p2 : ff < 5) (p3 : u ≤ 300) (K : post (some (vi ((v : Nat) : Int))) (S nw nx g, 78 + gn, (pm c tk tf tt rr ll ff pl bd))) : SW G (j + 3) mX7_readElement 19 [some (vr (3)), some (vr (1)), some (vr (e)), some (vi (((v : Nat) : Int))), some (vi (((u : Nat) : Int)))] [] (S nw nx g, 78 + gn, (pm c tk tf tt rr ll ff pl bd)) B0 post := by
  refine g_X7_readElement_19b he hS hn hB hT hE hV ?_
  refine ⟨?_, ⟨fun q => ?_, fun q => ⟨?_, ⟨fun q => ?_, fun q => ?_⟩⟩⟩⟩
  all_goals first | omega | exact K | (exfalso; omega)
set_option maxHeartbeats 8000000 in
theorem lp_X7_readElement {G : GG} {j nw nx gn : Nat} {g : Nat → Sh} {c : Nat → Nat → Int} {post : Option AV → AM → Prop} {nb : Nat → Nat} {n : Nat} {rr ll : Nat} {bd : Nat → Nat} {P : GD} {e : Nat} (he : e = 21 ∨ e = 35) (hS : c 1 1 = ((n : Nat) : Int)) (hn : n ≤ 300) (hB : ∀ i, nb i < 256) (hT : ∀ i, i < 300 → c 2 i = sb (nb i)) (hE : EL c e P) (hV : GV P) : ∀ k p v u : Nat, u + k = 300 → u ≤ p → p ≤ n → v < gN P → (∀ (tk tf tt ff2 x2 : Nat) (pl2 : Int), ff2 = (elP nb n P k p v).1 → pl2 = (elP nb n P k p v).2.1 → ((elP nb n P k p v).1 = 0 → x2 = (elP nb n P k p v).2.2) → post (some (vi ((x2 : Nat) : Int))) (S nw nx g, 78 + gn, (pm c tk tf tt rr ll ff2 pl2 bd))) → SW G (j + 3) mX7_readElement 19 [some (vr (3)), some (vr (1)), some (vr (e)), some (vi (((v : Nat) : Int))), some (vi (((u : Nat) : Int)))] [] (S nw nx g, 78 + gn, (pm c (tkK nb n p) (tkF nb n p) (tkT nb n p) rr ll 0 (-1) bd)) B0 post := by
  intro k
  induction k with
  | zero =>
    intro p v u hu h1 h2 hv K
    refine g_X7_readElement_19 he hS hn hB hT hE hV ?_
    refine ⟨?_, ⟨fun q => ?_, fun q => ⟨?_, ⟨fun q => ?_, fun q => ⟨?_, ⟨fun q => ⟨?_, ?_, ?_, ?_, ⟨fun q => ⟨?_, ?_, ?_, ?_, ?_, ⟨?_, ?_⟩⟩, fun q => ?_⟩⟩, fun q => ?_⟩⟩⟩⟩⟩⟩
    all_goals first | omega | (exfalso; omega) | exact K _ _ _ _ _ _ rfl rfl (fun _ => rfl)
  | succ k ih =>
    intro p v u hu h1 h2 hv K
    have hk := tkK_le (nb := nb) (n := n) (p := p)
    have hT1 := tkT_le (nb := nb) h2
    have hR5 := GV_R hV
    refine g_X7_readElement_19 he hS hn hB hT hE hV ?_
    by_cases c0 : tkK nb n p = 0
    · have e : elP nb n P (k + 1) p v = (0, -1, v) := by rw [elP, if_pos c0]
      rw [e] at K
      refine ⟨?_, ⟨fun q => ?_, fun q => ⟨?_, ⟨fun q => ?_, fun q => ⟨?_, ⟨fun q => ⟨?_, ?_, ?_, ?_, ⟨fun q => ⟨?_, ?_, ?_, ?_, ?_, ⟨?_, ?_⟩⟩, fun q => ?_⟩⟩, fun q => ?_⟩⟩⟩⟩⟩⟩
      all_goals first | omega | (exfalso; omega) | exact K _ _ _ _ _ _ rfl rfl (fun _ => rfl)
    · have hgt := tkT_gt h2 c0
      by_cases c1 : tkK nb n p = 1
      · have hd := tk_let c1
        cases hA : alL nb (gR P) (tkT nb n p - tkF nb n p) (tkF nb n p) with
        | false =>
          have e : elP nb n P (k + 1) p v = (2, ((tkF nb n p : Nat) : Int), 0) := by rw [elP, if_neg c0, if_neg (not_not_intro c1), if_pos hA]
          rw [e] at K
          refine ⟨?_, ⟨fun q => ?_, fun q => ⟨?_, ⟨fun q => ?_, fun q => ⟨?_, ⟨fun q => ⟨?_, ?_, ?_, ?_, ⟨fun q => ⟨?_, ?_, ?_, ?_, ?_, ⟨?_, ?_⟩⟩, fun q => ?_⟩⟩, fun q => ?_⟩⟩⟩⟩⟩⟩
          all_goals first | omega | assumption | (exfalso; omega) | exact lp_X7_readElement_b he hS hn hB hT hE hV yf2 zf2 (by omega) (K _ _ _ _ _ _ rfl rfl (fun h => absurd h yf2)) | (exfalso; rw [hA] at *; contradiction)
        | true =>
          have e : elP nb n P (k + 1) p v = elP nb n P k (tkT nb n p) (bhW P nb (tkT nb n p - tkF nb n p) (tkF nb n p) v) := by rw [elP, if_neg c0, if_neg (not_not_intro c1), if_neg (by rw [hA]; decide)]
          rw [e] at K
          have hl : ∀ q, tkF nb n p ≤ q → q < tkT nb n p → nb q - 97 < gR P := fun q a b => alL_lt _ _ hA q a (by omega)
          have hb := bhW_lt (nb := nb) hV (tkT nb n p - tkF nb n p) (tkF nb n p) v hv (fun q a b => hl q a (by omega))
          refine ⟨?_, ⟨fun q => ?_, fun q => ⟨?_, ⟨fun q => ?_, fun q => ⟨?_, ⟨fun q => ⟨?_, ?_, ?_, ?_, ⟨fun q => ⟨?_, ?_, ?_, ?_, ?_, ⟨?_, ?_⟩⟩, fun q => ?_⟩⟩, fun q => ?_⟩⟩⟩⟩⟩⟩
          all_goals first | omega | assumption | (exfalso; omega) | exact ih _ _ _ (by omega) (by omega) (by omega) hb K | (exfalso; rw [hA] at *; contradiction)
      · have e : elP nb n P (k + 1) p v = (1, ((tkF nb n p : Nat) : Int), 0) := by rw [elP, if_neg c0, if_pos c1]
        rw [e] at K
        refine ⟨?_, ⟨fun q => ?_, fun q => ⟨?_, ⟨fun q => ?_, fun q => ⟨?_, ⟨fun q => ⟨?_, ?_, ?_, ?_, ⟨fun q => ⟨?_, ?_, ?_, ?_, ?_, ⟨?_, ?_⟩⟩, fun q => ?_⟩⟩, fun q => ?_⟩⟩⟩⟩⟩⟩
        all_goals first | omega | assumption | (exfalso; omega) | exact lp_X7_readElement_b he hS hn hB hT hE hV yf1 zf1 (by omega) (K _ _ _ _ _ _ rfl rfl (fun h => absurd h yf1))
theorem c_X7_readElement {G : GG} {j nw nx gn : Nat} {g : Nat → Sh} {c : Nat → Nat → Int} {post : Option AV → AM → Prop} {nb : Nat → Nat} {n : Nat} {tk : Nat} {tf : Nat} {tt : Nat} {rr : Nat} {ll : Nat} {ff : Nat} {pl : Int} {bd : Nat → Nat} {P : GD} {e : Nat} (he : e = 21 ∨ e = 35) (hS : c 1 1 = ((n : Nat) : Int)) (hn : n ≤ 300) (hB : ∀ i, nb i < 256) (hT : ∀ i, i < 300 → c 2 i = sb (nb i)) (hE : EL c e P) (hV : GV P) (h0 : 0 < gN P) (K : (∀ (tk tf tt ff2 x2 : Nat) (pl2 : Int), ff2 = (elP nb n P 300 0 0).1 → pl2 = (elP nb n P 300 0 0).2.1 → ((elP nb n P 300 0 0).1 = 0 → x2 = (elP nb n P 300 0 0).2.2) → post (some (vi ((x2 : Nat) : Int))) (S nw nx g, 78 + gn, (pm c tk tf tt rr ll ff2 pl2 bd)))) : SM G (j + 4) mX7_readElement [vr (3), vr (1), vr (e)] (S nw nx g, 78 + gn, (pm c tk tf tt rr ll ff pl bd)) 0 0 post := by
  refine sm_of wX7_readElement rfl (Nat.le_of_ble_eq_true rfl) ?_
  refine g_X7_readElement_0 he hS hn hB hT hE hV ?_
  exact lp_X7_readElement he hS hn hB hT hE hV 300 0 0 0 rfl (Nat.le_refl _) (Nat.zero_le _) h0 K

