/-- the tape's row and the row of five numbers -/
def f5 (c : Nat → Nat → Int) (N : Nat) (T F : Nat → Int) : Nat → Nat → Int := wr (wr c 50 T) N F
section F5
variable {c : Nat → Nat → Int} {N : Nat} {T F : Nat → Int}
theorem f5_id (h : 78 ≤ N) : f5 c N (c 50) (c N) = c := by
  funext a
  unfold f5 wr
  by_cases h1 : a = N
  · rw [if_pos h1, h1]
  · rw [if_neg h1]
    by_cases h2 : a = 50
    · rw [if_pos h2, h2]
    · rw [if_neg h2]
theorem f5_N {k : Nat} {z : Int} : up2 (f5 c N T F) N k z = f5 c N T (u1 F k z) := by
  funext a i
  by_cases h1 : a = N
  · subst h1
    by_cases h2 : i = k
    · subst h2; simp [up2, f5, wr, u1]
    · simp [up2, f5, wr, u1, h2]
  · simp [up2, f5, wr, h1]
theorem f5_50 (h : 78 ≤ N) {k : Nat} {z : Int} : up2 (f5 c N T F) 50 k z = f5 c N (u1 T k z) F := by
  have hN : (50 : Nat) ≠ N := by omega
  funext a i
  by_cases h1 : a = 50
  · subst h1
    by_cases h2 : i = k
    · subst h2; simp [up2, f5, wr, u1, hN]
    · simp [up2, f5, wr, u1, h2, hN]
  · simp [up2, f5, wr, h1]
theorem f5_49 (h : 78 ≤ N) {z : Int} : up2 (f5 c N T F) 49 1 z = f5 (up2 c 49 1 z) N T F := by
  have hN : (49 : Nat) ≠ N := by omega
  funext a i
  by_cases h1 : a = N
  · subst h1
    simp [up2, f5, wr, Ne.symm hN]
  · by_cases h2 : a = 50
    · subst h2; simp [up2, f5, wr, h1]
    · simp [up2, f5, wr, h1, h2]
theorem f5_r49 (h : 78 ≤ N) : f5 c N T F 49 1 = c 49 1 := by
  have hN : (49 : Nat) ≠ N := by omega
  simp [f5, wr, hN]
theorem f5_rN {x : Nat} : f5 c N T F N x = F x := by simp [f5, wr]
end F5
theorem S_more (nw nx : Nat) (g : Nat → Sh) (gn : Nat) (q : Sh) : upS (S nw nx g) (78 + gn) q = S nw nx (upS g (78 + gn) q) := by
  funext i
  unfold upS S
  by_cases h : i = 78 + gn
  · rw [if_pos h, if_neg (by omega)]
    exact (if_pos h).symm
  · rw [if_neg h]
    by_cases h2 : i < 78
    · rw [if_pos h2, if_pos h2]
    · rw [if_neg h2, if_neg h2]
      exact (if_neg h).symm
def fdT (bt : Nat → Int) (n : Nat) : Nat → Nat → (Nat → Int) → (Nat → Int)
  | 0, _, T => T
  | k + 1, u, T => fdT bt n k (u + 1) (u1 T (n + u) (bt u))
theorem fdT_at (bt : Nat → Int) (n : Nat) : ∀ k u (T : Nat → Int) i, fdT bt n k u T i = if n + u ≤ i ∧ i < n + u + k then bt (i - n) else T i := by
  intro k
  induction k with
  | zero => intro u T i; rw [fdT, if_neg (by omega)]
  | succ k ih =>
    intro u T i
    rw [fdT, ih]
    by_cases h : n + (u + 1) ≤ i ∧ i < n + (u + 1) + k
    · rw [if_pos h, if_pos (by omega)]
    · rw [if_neg h, u1]
      by_cases h2 : i = n + u
      · rw [if_pos h2, if_pos (by omega), h2]
        congr 1
        omega
      · rw [if_neg h2, if_neg (by omega)]
def btF (F : Nat → Int) (u : Nat) : Int := and32 (ushr32 (F (u / 4)) ((24 - 8 * (u % 4) : Nat) : Int)) 255
def fv5 (F : Nat → Int) (a b d e f : Int) : Nat → Int := u1 (u1 (u1 (u1 (u1 F 0 a) 1 b) 2 d) 3 e) 4 f
set_option maxHeartbeats 2000000 in
set_option maxRecDepth 20000 in
theorem g_X9_feed_0 {G : GG} {j nw nx gn : Nat} {g : Nat → Sh} {c : Nat → Nat → Int} {post : Option AV → AM → Prop} {a : Int} {b : Int} {d : Int} {e : Int} {f : Int} {n : Nat} (hS : c 49 1 = ((n : Nat) : Int)) (hn : n ≤ 300)  (hv : (n < 2147483648) ∧ (((n ≤ 280) → SW G (j + 0) mX9_feed 13 [some (vr (49)), some (vi (a)), some (vi (b)), some (vi (d)), some (vi (e)), some (vi (f)), none, none] [vi (5)] (S nw nx g, 78 + gn, c) (0, 0, 1, 5) post) ∧ ((¬ (n ≤ 280)) → post (some (vi ((-1)))) (S nw nx g, 78 + gn, c)))) :
    SW G (j + 0) mX9_feed 0 [some (vr (49)), some (vi (a)), some (vi (b)), some (vi (d)), some (vi (e)), some (vi (f)), none, none] [] (S nw nx g, 78 + gn, c) (0, 0, 1, 5) post := by
  refine sw_aload_n (dX9_feed_0.at 0 rfl) rfl rfl ?_
  refine sw_getIE (w := ((n : Nat) : Int)) (dX9_feed_0.at 1 rfl) fp_X9_101 (S_lt 49 (by decide)) (S_49 nw nx g) rfl hS ?_
  refine sw_sipush (dX9_feed_0.at 2 rfl) (by decide) ?_
  refine sw_icmpN_le n 280 (tgt := 12) (dX9_feed_0.at 3 rfl) (by decide) hv.1 (by decide) (fun q => ?_) (fun q => ?_)
  · replace hv := hv.2.1 q
    refine sw_iconst (dX9_feed_0.at 6 rfl) ?_
    exact hv
  · replace hv := hv.2.2 q
    refine sw_iconst (dX9_feed_0.at 4 rfl) ?_
    exact sw_iret (dX9_feed_0.at 5 rfl) rfl (by decide) (by decide) hv

set_option maxHeartbeats 2000000 in
set_option maxRecDepth 20000 in
theorem g_X9_feed_15 {G : GG} {j nw nx gn : Nat} {g : Nat → Sh} {c : Nat → Nat → Int} {post : Option AV → AM → Prop} {a : Int} {b : Int} {d : Int} {e : Int} {f : Int} {n : Nat} {N5 : Nat} {T : Nat → Int} {F : Nat → Int} (hS : c 49 1 = ((n : Nat) : Int)) (hn : n ≤ 300) (hN5lt : N5 < 78 + gn) (hN5 : S nw nx g N5 = .inl (0, 5)) (hN5g : 78 ≤ N5)  (hv : SW G (j + 0) mX9_feed 42 [some (vr (49)), none, none, none, none, none, some (vr (N5)), some (vi (0))] [] (S nw nx g, 78 + gn, (f5 c N5 T (u1 (u1 (u1 (u1 (u1 F 0 a) 1 b) 2 d) 3 e) 4 f))) (1, 5, 1, 5) post) :
    SW G (j + 0) mX9_feed 15 [some (vr (49)), some (vi (a)), some (vi (b)), some (vi (d)), some (vi (e)), some (vi (f)), none, none] [vr (N5)] (S nw nx g, 78 + gn, (f5 c N5 T F)) (1, 5, 1, 5) post := by
  refine sw_dup (dX9_feed_0.at 8 rfl) (fun _ h => by cases h) ?_
  refine sw_iconst (dX9_feed_0.at 9 rfl) ?_
  refine sw_iload_n (dX9_feed_0.at 10 rfl) rfl rfl ?_
  refine sw_iastN 0 (dX9_feed_0.at 11 rfl) hN5lt hN5 (by decide) (by decide) ?_
  refine SW.cg (M' := (S nw nx g, 78 + gn, (f5 c N5 T (u1 F 0 a)))) (congrArg (fun m => (S nw nx g, 78 + gn, m)) f5_N) ?_
  refine sw_dup (dX9_feed_0.at 12 rfl) (fun _ h => by cases h) ?_
  refine sw_iconst (dX9_feed_0.at 13 rfl) ?_
  refine sw_iload_n (dX9_feed_0.at 14 rfl) rfl rfl ?_
  refine sw_iastN 1 (dX9_feed_0.at 15 rfl) hN5lt hN5 (by decide) (by decide) ?_
  refine SW.cg (M' := (S nw nx g, 78 + gn, (f5 c N5 T (u1 (u1 F 0 a) 1 b)))) (congrArg (fun m => (S nw nx g, 78 + gn, m)) f5_N) ?_
  refine sw_dup (dX9_feed_0.at 16 rfl) (fun _ h => by cases h) ?_
  refine sw_iconst (dX9_feed_0.at 17 rfl) ?_
  refine sw_iload_n (dX9_feed_0.at 18 rfl) rfl rfl ?_
  refine sw_iastN 2 (dX9_feed_0.at 19 rfl) hN5lt hN5 (by decide) (by decide) ?_
  refine SW.cg (M' := (S nw nx g, 78 + gn, (f5 c N5 T (u1 (u1 (u1 F 0 a) 1 b) 2 d)))) (congrArg (fun m => (S nw nx g, 78 + gn, m)) f5_N) ?_
  refine sw_dup (dX9_feed_0.at 20 rfl) (fun _ h => by cases h) ?_
  refine sw_iconst (dX9_feed_0.at 21 rfl) ?_
  refine sw_iload (dX9_feed_0.at 22 rfl) rfl ?_
  refine sw_iastN 3 (dX9_feed_0.at 23 rfl) hN5lt hN5 (by decide) (by decide) ?_
  refine SW.cg (M' := (S nw nx g, 78 + gn, (f5 c N5 T (u1 (u1 (u1 (u1 F 0 a) 1 b) 2 d) 3 e)))) (congrArg (fun m => (S nw nx g, 78 + gn, m)) f5_N) ?_
  refine sw_dup (dX9_feed_0.at 24 rfl) (fun _ h => by cases h) ?_
  refine sw_iconst (dX9_feed_0.at 25 rfl) ?_
  refine sw_iload (dX9_feed_0.at 26 rfl) rfl ?_
  refine sw_iastN 4 (dX9_feed_0.at 27 rfl) hN5lt hN5 (by decide) (by decide) ?_
  refine SW.cg (M' := (S nw nx g, 78 + gn, (f5 c N5 T (u1 (u1 (u1 (u1 (u1 F 0 a) 1 b) 2 d) 3 e) 4 f)))) (congrArg (fun m => (S nw nx g, 78 + gn, m)) f5_N) ?_
  refine sw_astore (lo' := [some (vr (49)), some (vi (a)), some (vi (b)), some (vi (d)), some (vi (e)), some (vi (f)), some (vr (N5)), none]) (dX9_feed_0.at 28 rfl) (by decide) rfl ?_
  refine sw_iconst (dX9_feed_0.at 29 rfl) ?_
  refine sw_istore (lo' := [some (vr (49)), some (vi (a)), some (vi (b)), some (vi (d)), some (vi (e)), some (vi (f)), some (vr (N5)), some (vi (0))]) (dX9_feed_0.at 30 rfl) (by decide) rfl ?_
  exact sw_mask (bs := [true, false, false, false, false, false, true, true]) hv

set_option maxHeartbeats 2000000 in
set_option maxRecDepth 20000 in
theorem g_X9_feed_42 {G : GG} {j nw nx gn : Nat} {g : Nat → Sh} {c : Nat → Nat → Int} {post : Option AV → AM → Prop} {n : Nat} {N5 : Nat} {T : Nat → Int} {F : Nat → Int} {uu : Nat} (hS : c 49 1 = ((n : Nat) : Int)) (hn : n ≤ 300) (hN5lt : N5 < 78 + gn) (hN5 : S nw nx g N5 = .inl (0, 5)) (hN5g : 78 ≤ N5)  (hv : (uu < 2147483648) ∧ (((20 ≤ uu) → post (some (vi (((n + 20 : Nat) : Int)))) (S nw nx g, 78 + gn, (f5 (up2 c 49 1 ((n + 20 : Nat) : Int)) N5 T F))) ∧ ((¬ (20 ≤ uu)) → (uu < 2147483648) ∧ ((uu / 4 < 5) ∧ ((uu < 2147483648) ∧ ((8 * (uu % 4) ≤ 24) ∧ ((n + uu < 300) ∧ (SW G (j + 0) mX9_feed 42 [some (vr (49)), none, none, none, none, none, some (vr (N5)), some (vi (((uu + 1 : Nat) : Int)))] [] (S nw nx g, 78 + gn, (f5 c N5 (u1 T (n + uu) (and32 (ushr32 (F (uu / 4)) ((24 - (8 * (uu % 4)) : Nat) : Int)) 255)) F)) (1, 5, 1, 5) post)))))))) :
    SW G (j + 0) mX9_feed 42 [some (vr (49)), none, none, none, none, none, some (vr (N5)), some (vi (((uu : Nat) : Int)))] [] (S nw nx g, 78 + gn, (f5 c N5 T F)) (1, 5, 1, 5) post := by
  refine sw_iload (dX9_feed_0.at 31 rfl) rfl ?_
  refine sw_bipush (dX9_feed_0.at 32 rfl) (by decide) ?_
  refine sw_icmpN_ge uu 20 (tgt := 89) (dX9_feed_0.at 33 rfl) (by decide) hv.1 (by decide) (fun q => ?_) (fun q => ?_)
  · replace hv := hv.2.1 q
    refine sw_aload_n (dX9_feed_1.at 8 rfl) rfl rfl ?_
    refine sw_dup (dX9_feed_1.at 9 rfl) (fun _ h => by cases h) ?_
    refine sw_getIE (w := ((n : Nat) : Int)) (dX9_feed_1.at 10 rfl) fp_X9_101 (S_lt 49 (by decide)) (S_49 nw nx g) rfl ((f5_r49 hN5g).trans hS) ?_
    refine sw_bipush (dX9_feed_1.at 11 rfl) (by decide) ?_
    refine sw_iadd (dX9_feed_1.at 12 rfl) ?_
    refine sw_topI (y := ((n + 20 : Nat) : Int)) (by first | rfl | (congr 1)) ?_
    refine sw_putI (dX9_feed_1.at 13 rfl) fp_X9_101 (S_lt 49 (by decide)) (S_49 nw nx g) rfl ?_
    refine SW.cg (M' := (S nw nx g, 78 + gn, (f5 (up2 c 49 1 ((n + 20 : Nat) : Int)) N5 T F))) (congrArg (fun m => (S nw nx g, 78 + gn, m)) (f5_49 hN5g)) ?_
    refine sw_aload_n (dX9_feed_1.at 14 rfl) rfl rfl ?_
    refine sw_getIE (w := ((n + 20 : Nat) : Int)) (dX9_feed_1.at 15 rfl) fp_X9_101 (S_lt 49 (by decide)) (S_49 nw nx g) rfl (f5_r49 hN5g) ?_
    exact sw_iret (dX9_feed_1.at 16 rfl) rfl (by decide) (by decide) hv
  · replace hv := hv.2.2 q
    refine sw_aload_n (dX9_feed_0.at 34 rfl) rfl rfl ?_
    refine sw_getR (dX9_feed_0.at 35 rfl) fp_X9_7 (S_lt 49 (by decide)) (S_49 nw nx g) rfl rfl ?_
    refine sw_aload_n (dX9_feed_0.at 36 rfl) rfl rfl ?_
    refine sw_getIE (w := ((n : Nat) : Int)) (dX9_feed_0.at 37 rfl) fp_X9_101 (S_lt 49 (by decide)) (S_49 nw nx g) rfl ((f5_r49 hN5g).trans hS) ?_
    refine sw_iload (dX9_feed_0.at 38 rfl) rfl ?_
    refine sw_iadd (dX9_feed_0.at 39 rfl) ?_
    refine sw_topI (y := ((n + uu : Nat) : Int)) (by first | rfl | (congr 1)) ?_
    refine sw_aload (dX9_feed_0.at 40 rfl) rfl ?_
    refine sw_iload (dX9_feed_0.at 41 rfl) rfl ?_
    refine sw_iconst (dX9_feed_0.at 42 rfl) ?_
    refine sw_idivN uu 4 (dX9_feed_0.at 43 rfl) (by decide) (by decide) hv.1 ?_
    replace hv := hv.2
    refine sw_ialdN (uu / 4) (w := F (uu / 4)) (dX9_feed_0.at 44 rfl) hN5lt hN5 (by decide) hv.1 f5_rN ?_
    replace hv := hv.2
    refine sw_bipush (dX9_feed_0.at 45 rfl) (by decide) ?_
    refine sw_bipush (dX9_feed_0.at 46 rfl) (by decide) ?_
    refine sw_iload (dX9_feed_0.at 47 rfl) rfl ?_
    refine sw_iconst (dX9_feed_0.at 48 rfl) ?_
    refine sw_iremN uu 4 (dX9_feed_0.at 49 rfl) (by decide) (by decide) hv.1 ?_
    replace hv := hv.2
    refine sw_imul (dX9_feed_1.at 0 rfl) ?_
    refine sw_topI (y := ((8 * (uu % 4) : Nat) : Int)) (by first | rfl | (congr 1)) ?_
    refine sw_isub (dX9_feed_1.at 1 rfl) ?_
    refine sw_topI (y := ((24 - (8 * (uu % 4)) : Nat) : Int)) (congrArg _ (Int.ofNat_sub hv.1).symm) ?_
    replace hv := hv.2
    refine sw_iushr (dX9_feed_1.at 2 rfl) ?_
    refine sw_sipush (dX9_feed_1.at 3 rfl) (by decide) ?_
    refine sw_iand (dX9_feed_1.at 4 rfl) ?_
    refine sw_iastN (n + uu) (dX9_feed_1.at 5 rfl) (S_lt 50 (by decide)) (S_50 nw nx g) (by decide) hv.1 ?_
    refine SW.cg (M' := (S nw nx g, 78 + gn, (f5 c N5 (u1 T (n + uu) (and32 (ushr32 (F (uu / 4)) ((24 - (8 * (uu % 4)) : Nat) : Int)) 255)) F))) (congrArg (fun m => (S nw nx g, 78 + gn, m)) (f5_50 hN5g)) ?_
    replace hv := hv.2
    refine sw_iinc (lo' := [some (vr (49)), none, none, none, none, none, some (vr (N5)), some (vi (((uu + 1 : Nat) : Int)))]) (dX9_feed_1.at 6 rfl) rfl (by decide) rfl ?_
    refine sw_goto (tgt := 42) (dX9_feed_1.at 7 rfl) (by decide) ?_
    exact hv

set_option maxHeartbeats 4000000 in
theorem lp_X9_feed {G : GG} {j nw nx gn : Nat} {g : Nat → Sh} {c : Nat → Nat → Int} {post : Option AV → AM → Prop} {n N5 : Nat} {F : Nat → Int} (hS : c 49 1 = ((n : Nat) : Int)) (hn : n ≤ 300) (hN5lt : N5 < 78 + gn) (hN5 : S nw nx g N5 = .inl (0, 5)) (hN5g : 78 ≤ N5) (hn2 : n + 20 ≤ 300) : ∀ (k uu : Nat) (T : Nat → Int), uu + k = 20 → post (some (vi ((n + 20 : Nat) : Int))) (S nw nx g, 78 + gn, f5 (up2 c 49 1 ((n + 20 : Nat) : Int)) N5 (fdT (btF F) n k uu T) F) → SW G (j + 0) mX9_feed 42 [some (vr (49)), none, none, none, none, none, some (vr (N5)), some (vi (((uu : Nat) : Int)))] [] (S nw nx g, 78 + gn, f5 c N5 T F) (1, 5, 1, 5) post := by
  intro k
  induction k with
  | zero =>
    intro uu T hu K
    refine g_X9_feed_42 hS hn hN5lt hN5 hN5g ?_
    refine ⟨?_, ⟨fun q => ?_, fun q => ⟨?_, ⟨?_, ⟨?_, ⟨?_, ⟨?_, ?_⟩⟩⟩⟩⟩⟩⟩
    all_goals first | omega | exact K | (exfalso; omega)
  | succ k ih =>
    intro uu T hu K
    simp only [fdT] at K
    refine g_X9_feed_42 hS hn hN5lt hN5 hN5g ?_
    refine ⟨?_, ⟨fun q => ?_, fun q => ⟨?_, ⟨?_, ⟨?_, ⟨?_, ⟨?_, ?_⟩⟩⟩⟩⟩⟩⟩
    all_goals first | omega | exact ih _ _ (by omega) K | (exfalso; omega)
/-- the reference's feed: a new row of five numbers is thrown away -/
theorem c_X9_feed {G : GG} {j nw nx gn : Nat} {g : Nat → Sh} {c : Nat → Nat → Int} {post : Option AV → AM → Prop} {n : Nat} {a b d e f : Int} (hS : c 49 1 = ((n : Nat) : Int)) (hn : n ≤ 300) (K0 : ¬ n ≤ 280 → post (some (vi (-1))) (S nw nx g, 78 + gn, c)) (K1 : n ≤ 280 → post (some (vi ((n + 20 : Nat) : Int))) (S nw nx (upS g (78 + gn) (.inl (0, 5))), 78 + (gn + 1), f5 (up2 (upZ c (78 + gn)) 49 1 ((n + 20 : Nat) : Int)) (78 + gn) (fdT (btF (fv5 (fun _ => 0) a b d e f)) n 20 0 (c 50)) (fv5 (fun _ => 0) a b d e f))) : SM G (j + 1) mX9_feed [vr 49, vi a, vi b, vi d, vi e, vi f] (S nw nx g, 78 + gn, c) 1 5 post := by
  refine sm_of wX9_feed rfl (Nat.le_of_ble_eq_true rfl) ?_
  refine g_X9_feed_0 hS hn ?_
  refine ⟨?_, ⟨fun q => ?_, fun q => ?_⟩⟩
  · omega
  · refine sw_newI (len := 5) (dX9_feed_0.at 7 rfl) rfl (by decide) (by decide) (by decide) ?_
    have hz : upZ c (78 + gn) = f5 (upZ c (78 + gn)) (78 + gn) (c 50) (fun _ => 0) := by
      have h1 := f5_id (c := upZ c (78 + gn)) (N := 78 + gn) (by omega)
      have h2 : upZ c (78 + gn) 50 = c 50 := by
        funext i
        rw [upZ, if_neg (by omega)]
      have h3 : upZ c (78 + gn) (78 + gn) = fun _ => 0 := by
        funext i
        rw [upZ, if_pos rfl]
      rw [h2, h3] at h1
      exact h1.symm
    refine SW.cg (M' := (S nw nx (upS g (78 + gn) (.inl (0, 5))), 78 + (gn + 1), f5 (upZ c (78 + gn)) (78 + gn) (c 50) (fun _ => 0))) (by rw [S_more, ← hz]; rfl) ?_
    have hS2 : upZ c (78 + gn) 49 1 = ((n : Nat) : Int) := by rw [upZ, if_neg (by omega)]; exact hS
    have hN5 : S nw nx (upS g (78 + gn) (.inl (0, 5))) (78 + gn) = .inl (0, 5) := by
      unfold S upS
      rw [if_neg (by omega), if_pos rfl]
    refine g_X9_feed_15 (gn := gn + 1) hS2 hn (by omega) hN5 (by omega) ?_
    exact lp_X9_feed (gn := gn + 1) hS2 hn (by omega) hN5 (by omega) (by omega) 20 0 _ rfl (K1 q)
  · exact K0 q

