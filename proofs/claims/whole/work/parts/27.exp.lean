/-- a row of the memory as a whole -/
def wr (c : Nat → Nat → Int) (a : Nat) (f : Nat → Int) : Nat → Nat → Int := fun i => if i = a then f else c i
def u1 (f : Nat → Int) (k : Nat) (z : Int) : Nat → Int := fun i => if i = k then z else f i
theorem wr_up (c : Nat → Nat → Int) (a : Nat) (f : Nat → Int) (k : Nat) (z : Int) : up2 (wr c a f) a k z = wr c a (u1 f k z) := by
  funext i q
  simp only [up2, wr, u1]
  by_cases h : i = a <;> simp [h, u1]
theorem wr_off {c : Nat → Nat → Int} {a : Nat} {f : Nat → Int} {i k : Nat} (h : i ≠ a) : wr c a f i k = c i k := by simp [wr, h]
theorem wr_offR {c : Nat → Nat → Int} {a : Nat} {f : Nat → Int} {i : Nat} (h : i ≠ a) : wr c a f i = c i := by simp [wr, h]
theorem wr_at (c : Nat → Nat → Int) (a : Nat) (f : Nat → Int) : wr c a f a = f := by simp [wr]
theorem wr_self (c : Nat → Nat → Int) (a : Nat) : wr c a (c a) = c := by
  funext i
  by_cases h : i = a <;> simp [wr, h]
theorem wr_wr (c : Nat → Nat → Int) (a : Nat) (f f2 : Nat → Int) : wr (wr c a f) a f2 = wr c a f2 := by
  funext i
  by_cases h : i = a <;> simp [wr, h]
theorem EL_wr {c : Nat → Nat → Int} {e : Nat} {P : GD} {a : Nat} {f : Nat → Int} (h : EL c e P) (he : e = 21 ∨ e = 35) (ha : a < 21 ∨ 48 < a) : EL (wr c a f) e P := EL_same h (fun q hq => wr_offR (by omega))
theorem u1_eq (f : Nat → Int) (k : Nat) (z : Int) : u1 f k z k = z := by simp [u1]
theorem u1_ne {f : Nat → Int} {k i : Nat} {z : Int} (h : i ≠ k) : u1 f k z i = f i := by simp [u1, h]
def z1 (f : Nat → Int) : Nat → Nat → Int
  | 0 => f
  | n + 1 => u1 (z1 f n) n 0
theorem z1_in (f : Nat → Int) : ∀ n i, i < n → z1 f n i = 0 := by
  intro n
  induction n with
  | zero => intro i h; omega
  | succ n ih =>
    intro i h
    rw [z1]
    by_cases e : i = n
    · subst e; exact u1_eq _ _ _
    · rw [u1_ne e]; exact ih i (by omega)
def srF (l h : Nat) : (Nat → Int) → Nat → Nat → Int
  | f, 0 => f
  | f, k + 1 => srF l h (u1 (u1 f (l + k) ((if k = 0 then 0 else f (l + k - 1) + f (h + k - 1)) - f (l + k))) (h + k) (f (l + k))) k
def spF (l h : Nat) : (Nat → Int) → Nat → Nat → Int
  | f, 0 => f
  | f, k + 1 => spF l h (u1 (u1 f (h + k) (f (l + k) + (if k = 0 then 0 else f (h + k - 1)) - f (h + k))) (l + k) (if k = 0 then 0 else f (h + k - 1))) k
set_option maxHeartbeats 2000000 in
set_option maxRecDepth 20000 in
theorem g_X2_start_2 {G : GG} {j nw nx gn : Nat} {g : Nat → Sh} {c : Nat → Nat → Int} {post : Option AV → AM → Prop} {x : Nat} {i : Nat} {f : Nat → Int}  (hv : (i < 2147483648) ∧ (((960 ≤ i) → (x * 16 < 960) ∧ (post none (S nw nx g, 78 + gn, (wr c 10 (u1 f (x * 16) 1))))) ∧ ((¬ (960 ≤ i)) → (i < 960) ∧ (SW G (j + 0) mX2_start 2 [some (vr (9)), some (vi (((x : Nat) : Int))), some (vi (((i + 1 : Nat) : Int)))] [] (S nw nx g, 78 + gn, (wr c 10 (u1 f i 0))) B0 post)))) :
    SW G (j + 0) mX2_start 2 [some (vr (9)), some (vi (((x : Nat) : Int))), some (vi (((i : Nat) : Int)))] [] (S nw nx g, 78 + gn, (wr c 10 f)) B0 post := by
  refine sw_iload_n (dX2_start.at 2 rfl) rfl rfl ?_
  refine sw_sipush (dX2_start.at 3 rfl) (by decide) ?_
  refine sw_icmpN_ge i 960 (tgt := 22) (dX2_start.at 4 rfl) (by decide) hv.1 (by decide) (fun q => ?_) (fun q => ?_)
  · replace hv := hv.2.1 q
    refine sw_aload_n (dX2_start.at 12 rfl) rfl rfl ?_
    refine sw_getR (dX2_start.at 13 rfl) fp_X2_9 (S_lt 9 (by decide)) (S_9 nw nx g) rfl rfl ?_
    refine sw_iload_n (dX2_start.at 14 rfl) rfl rfl ?_
    refine sw_bipush (dX2_start.at 15 rfl) (by decide) ?_
    refine sw_imul (dX2_start.at 16 rfl) ?_
    refine sw_topI (y := ((x * 16 : Nat) : Int)) (by first | rfl | (congr 1)) ?_
    refine sw_iconst (dX2_start.at 17 rfl) ?_
    refine sw_iastN (x * 16) (dX2_start.at 18 rfl) (S_lt 10 (by decide)) (S_10 nw nx g) (by decide) hv.1 ?_
    refine SW.cg (M' := (S nw nx g, 78 + gn, (wr c 10 (u1 f (x * 16) 1)))) (congrArg (fun m => (S nw nx g, 78 + gn, m)) (wr_up c 10 f (x * 16) 1)) ?_
    replace hv := hv.2
    exact sw_vret (dX2_start.at 19 rfl) rfl (Nat.le_refl _) (Nat.le_refl _) hv
  · replace hv := hv.2.2 q
    refine sw_aload_n (dX2_start.at 5 rfl) rfl rfl ?_
    refine sw_getR (dX2_start.at 6 rfl) fp_X2_9 (S_lt 9 (by decide)) (S_9 nw nx g) rfl rfl ?_
    refine sw_iload_n (dX2_start.at 7 rfl) rfl rfl ?_
    refine sw_iconst (dX2_start.at 8 rfl) ?_
    refine sw_iastN i (dX2_start.at 9 rfl) (S_lt 10 (by decide)) (S_10 nw nx g) (by decide) hv.1 ?_
    refine SW.cg (M' := (S nw nx g, 78 + gn, (wr c 10 (u1 f i 0)))) (congrArg (fun m => (S nw nx g, 78 + gn, m)) (wr_up c 10 f i 0)) ?_
    replace hv := hv.2
    refine sw_iinc (lo' := [some (vr (9)), some (vi (((x : Nat) : Int))), some (vi (((i + 1 : Nat) : Int)))]) (dX2_start.at 10 rfl) rfl (by decide) rfl ?_
    refine sw_goto (tgt := 2) (dX2_start.at 11 rfl) (by decide) ?_
    exact hv

set_option maxHeartbeats 2000000 in
theorem lp_X2_start_2 {G : GG} {j nw nx gn : Nat} {g : Nat → Sh} {c : Nat → Nat → Int} {post : Option AV → AM → Prop} {f : Nat → Int} {x : Nat} (hx : x < 60) (K : post none (S nw nx g, 78 + gn, wr c 10 (u1 (z1 f 960) (x * 16) 1))) : ∀ k i : Nat, i + k = 960 → SW G (j + 0) mX2_start 2 [some (vr (9)), some (vi (((x : Nat) : Int))), some (vi (((i : Nat) : Int)))] [] (S nw nx g, 78 + gn, wr c 10 (z1 f i)) B0 post := by
  intro k
  induction k with
  | zero =>
    intro i hi
    have e : i = 960 := by omega
    subst e
    refine g_X2_start_2 ?_
    refine ⟨?_, ⟨fun q => ⟨?_, ?_⟩, fun q => ⟨?_, ?_⟩⟩⟩
    all_goals first | exact K | omega | (exfalso; omega)
  | succ k ih =>
    intro i hi
    refine g_X2_start_2 ?_
    have h := ih (i + 1) (by omega)
    rw [z1] at h
    refine ⟨?_, ⟨fun q => ⟨?_, ?_⟩, fun q => ⟨?_, ?_⟩⟩⟩
    all_goals first | exact h | omega | (exfalso; omega)

set_option maxHeartbeats 2000000 in
set_option maxRecDepth 20000 in
theorem g_X2_start_0 {G : GG} {j nw nx gn : Nat} {g : Nat → Sh} {c : Nat → Nat → Int} {post : Option AV → AM → Prop} {x : Nat}  (hv : SW G (j + 0) mX2_start 2 [some (vr (9)), some (vi (((x : Nat) : Int))), some (vi (0))] [] (S nw nx g, 78 + gn, c) B0 post) :
    SW G (j + 0) mX2_start 0 [some (vr (9)), some (vi (((x : Nat) : Int))), none] [] (S nw nx g, 78 + gn, c) B0 post := by
  refine sw_iconst (dX2_start.at 0 rfl) ?_
  refine sw_istore_n (lo' := [some (vr (9)), some (vi (((x : Nat) : Int))), some (vi (0))]) (dX2_start.at 1 rfl) rfl (by decide) rfl ?_
  exact hv

set_option maxHeartbeats 2000000 in
theorem c_X2_start {G : GG} {j nw nx gn : Nat} {g : Nat → Sh} {c : Nat → Nat → Int} {post : Option AV → AM → Prop} {x : Nat} (p1 : x < 60) (K : post none (S nw nx g, 78 + gn, (wr c 10 (u1 (z1 (c 10) 960) (x * 16) 1)))) : SM G (j + 1) mX2_start [vr (9), vi (((x : Nat) : Int))] (S nw nx g, 78 + gn, c) 0 0 post := by
  refine sm_of wX2_start rfl (Nat.le_of_ble_eq_true rfl) ?_
  refine g_X2_start_0  ?_
  have h := lp_X2_start_2 (G := G) (j := j) (f := c 10) p1 K 960 0 (by omega)
  rw [z1, wr_self] at h
  exact h

set_option maxHeartbeats 2000000 in
set_option maxRecDepth 20000 in
theorem g_X2_stepR_8 {G : GG} {j nw nx gn : Nat} {g : Nat → Sh} {c : Nat → Nat → Int} {post : Option AV → AM → Prop} {l : Nat} {h : Nat} {t : Nat} {k : Nat} {f : Nat → Int}  (hv : (k < 2147483648) ∧ (((((k : Nat) : Int) < 0) → post none (S nw nx g, 78 + gn, (wr c 10 f))) ∧ ((¬ (((k : Nat) : Int) < 0)) → (l + k < 960) ∧ ((k < 2147483648) ∧ (((k ≠ 0) → (1 ≤ l + k) ∧ (((l + k) - 1 < 960) ∧ ((1 ≤ h + k) ∧ (((h + k) - 1 < 960) ∧ ((l + k < 960) ∧ ((h + k < 960) ∧ (SW G (j + 0) mX2_stepR 8 [some (vr (9)), some (vi (((l : Nat) : Int))), some (vi (((h : Nat) : Int))), some (vi (((t : Nat) : Int))), some (vi (((k : Nat) : Int) + (-1))), none, none] [] (S nw nx g, 78 + gn, (wr c 10 (u1 (u1 f (l + k) (((f ((l + k) - 1)) + (f ((h + k) - 1))) - (f (l + k)))) (h + k) (f (l + k))))) B0 post))))))) ∧ ((k = 0) → (l + k < 960) ∧ ((h + k < 960) ∧ (SW G (j + 0) mX2_stepR 8 [some (vr (9)), some (vi (((l : Nat) : Int))), some (vi (((h : Nat) : Int))), some (vi (((t : Nat) : Int))), some (vi (((k : Nat) : Int) + (-1))), none, none] [] (S nw nx g, 78 + gn, (wr c 10 (u1 (u1 f (l + k) (0 - (f (l + k)))) (h + k) (f (l + k))))) B0 post)))))))) :
    SW G (j + 0) mX2_stepR 8 [some (vr (9)), some (vi (((l : Nat) : Int))), some (vi (((h : Nat) : Int))), some (vi (((t : Nat) : Int))), some (vi (((k : Nat) : Int))), none, none] [] (S nw nx g, 78 + gn, (wr c 10 f)) B0 post := by
  refine sw_iload (dX2_stepR.at 4 rfl) rfl ?_
  refine sw_if_lt (tgt := 89) (dX2_stepR.at 5 rfl) (by decide) (nrng hv.1) (fun q => ?_) (fun q => ?_)
  · replace hv := hv.2.1 q
    exact sw_vret (dX2_stepR.at 53 rfl) rfl (Nat.le_refl _) (Nat.le_refl _) hv
  · replace hv := hv.2.2 q
    refine sw_aload_n (dX2_stepR.at 6 rfl) rfl rfl ?_
    refine sw_getR (dX2_stepR.at 7 rfl) fp_X2_9 (S_lt 9 (by decide)) (S_9 nw nx g) rfl rfl ?_
    refine sw_iload_n (dX2_stepR.at 8 rfl) rfl rfl ?_
    refine sw_iload (dX2_stepR.at 9 rfl) rfl ?_
    refine sw_iadd (dX2_stepR.at 10 rfl) ?_
    refine sw_topI (y := ((l + k : Nat) : Int)) (by first | rfl | (congr 1)) ?_
    refine sw_ialdN (l + k) (w := f (l + k)) (dX2_stepR.at 11 rfl) (S_lt 10 (by decide)) (S_10 nw nx g) (by decide) hv.1 rfl ?_
    replace hv := hv.2
    refine sw_istore (lo' := [some (vr (9)), some (vi (((l : Nat) : Int))), some (vi (((h : Nat) : Int))), some (vi (((t : Nat) : Int))), some (vi (((k : Nat) : Int))), some (vi (f (l + k))), none]) (dX2_stepR.at 12 rfl) (by decide) rfl ?_
    refine sw_iload (dX2_stepR.at 13 rfl) rfl ?_
    refine sw_ifN_ne k (tgt := 33) (dX2_stepR.at 14 rfl) (by decide) hv.1 (fun q => ?_) (fun q => ?_)
    · replace hv := hv.2.1 q
      refine sw_aload_n (dX2_stepR.at 17 rfl) rfl rfl ?_
      refine sw_getR (dX2_stepR.at 18 rfl) fp_X2_9 (S_lt 9 (by decide)) (S_9 nw nx g) rfl rfl ?_
      refine sw_iload_n (dX2_stepR.at 19 rfl) rfl rfl ?_
      refine sw_iload (dX2_stepR.at 20 rfl) rfl ?_
      refine sw_iadd (dX2_stepR.at 21 rfl) ?_
      refine sw_topI (y := ((l + k : Nat) : Int)) (by first | rfl | (congr 1)) ?_
      refine sw_iconst (dX2_stepR.at 22 rfl) ?_
      refine sw_isub (dX2_stepR.at 23 rfl) ?_
      refine sw_topI (y := (((l + k) - 1 : Nat) : Int)) (congrArg _ (Int.ofNat_sub hv.1).symm) ?_
      replace hv := hv.2
      refine sw_ialdN ((l + k) - 1) (w := f ((l + k) - 1)) (dX2_stepR.at 24 rfl) (S_lt 10 (by decide)) (S_10 nw nx g) (by decide) hv.1 rfl ?_
      replace hv := hv.2
      refine sw_aload_n (dX2_stepR.at 25 rfl) rfl rfl ?_
      refine sw_getR (dX2_stepR.at 26 rfl) fp_X2_9 (S_lt 9 (by decide)) (S_9 nw nx g) rfl rfl ?_
      refine sw_iload_n (dX2_stepR.at 27 rfl) rfl rfl ?_
      refine sw_iload (dX2_stepR.at 28 rfl) rfl ?_
      refine sw_iadd (dX2_stepR.at 29 rfl) ?_
      refine sw_topI (y := ((h + k : Nat) : Int)) (by first | rfl | (congr 1)) ?_
      refine sw_iconst (dX2_stepR.at 30 rfl) ?_
      refine sw_isub (dX2_stepR.at 31 rfl) ?_
      refine sw_topI (y := (((h + k) - 1 : Nat) : Int)) (congrArg _ (Int.ofNat_sub hv.1).symm) ?_
      replace hv := hv.2
      refine sw_ialdN ((h + k) - 1) (w := f ((h + k) - 1)) (dX2_stepR.at 32 rfl) (S_lt 10 (by decide)) (S_10 nw nx g) (by decide) hv.1 rfl ?_
      replace hv := hv.2
      refine sw_iadd (dX2_stepR.at 33 rfl) ?_
      refine sw_istore (lo' := [some (vr (9)), some (vi (((l : Nat) : Int))), some (vi (((h : Nat) : Int))), some (vi (((t : Nat) : Int))), some (vi (((k : Nat) : Int))), some (vi (f (l + k))), some (vi ((f ((l + k) - 1)) + (f ((h + k) - 1))))]) (dX2_stepR.at 34 rfl) (by decide) rfl ?_
      refine sw_aload_n (dX2_stepR.at 35 rfl) rfl rfl ?_
      refine sw_getR (dX2_stepR.at 36 rfl) fp_X2_9 (S_lt 9 (by decide)) (S_9 nw nx g) rfl rfl ?_
      refine sw_iload_n (dX2_stepR.at 37 rfl) rfl rfl ?_
      refine sw_iload (dX2_stepR.at 38 rfl) rfl ?_
      refine sw_iadd (dX2_stepR.at 39 rfl) ?_
      refine sw_topI (y := ((l + k : Nat) : Int)) (by first | rfl | (congr 1)) ?_
      refine sw_iload (dX2_stepR.at 40 rfl) rfl ?_
      refine sw_iload (dX2_stepR.at 41 rfl) rfl ?_
      refine sw_isub (dX2_stepR.at 42 rfl) ?_
      refine sw_iastN (l + k) (dX2_stepR.at 43 rfl) (S_lt 10 (by decide)) (S_10 nw nx g) (by decide) hv.1 ?_
      refine SW.cg (M' := (S nw nx g, 78 + gn, (wr c 10 (u1 f (l + k) (((f ((l + k) - 1)) + (f ((h + k) - 1))) - (f (l + k))))))) (congrArg (fun m => (S nw nx g, 78 + gn, m)) (wr_up c 10 f (l + k) (((f ((l + k) - 1)) + (f ((h + k) - 1))) - (f (l + k))))) ?_
      replace hv := hv.2
      refine sw_aload_n (dX2_stepR.at 44 rfl) rfl rfl ?_
      refine sw_getR (dX2_stepR.at 45 rfl) fp_X2_9 (S_lt 9 (by decide)) (S_9 nw nx g) rfl rfl ?_
      refine sw_iload_n (dX2_stepR.at 46 rfl) rfl rfl ?_
      refine sw_iload (dX2_stepR.at 47 rfl) rfl ?_
      refine sw_iadd (dX2_stepR.at 48 rfl) ?_
      refine sw_topI (y := ((h + k : Nat) : Int)) (by first | rfl | (congr 1)) ?_
      refine sw_iload (dX2_stepR.at 49 rfl) rfl ?_
      refine sw_iastN (h + k) (dX2_stepR.at 50 rfl) (S_lt 10 (by decide)) (S_10 nw nx g) (by decide) hv.1 ?_
      refine SW.cg (M' := (S nw nx g, 78 + gn, (wr c 10 (u1 (u1 f (l + k) (((f ((l + k) - 1)) + (f ((h + k) - 1))) - (f (l + k)))) (h + k) (f (l + k)))))) (congrArg (fun m => (S nw nx g, 78 + gn, m)) (wr_up c 10 (u1 f (l + k) (((f ((l + k) - 1)) + (f ((h + k) - 1))) - (f (l + k)))) (h + k) (f (l + k)))) ?_
      replace hv := hv.2
      refine sw_iinc (lo' := [some (vr (9)), some (vi (((l : Nat) : Int))), some (vi (((h : Nat) : Int))), some (vi (((t : Nat) : Int))), some (vi (((k : Nat) : Int) + (-1))), some (vi (f (l + k))), some (vi ((f ((l + k) - 1)) + (f ((h + k) - 1))))]) (dX2_stepR.at 51 rfl) rfl (by decide) rfl ?_
      refine sw_goto (tgt := 8) (dX2_stepR.at 52 rfl) (by decide) ?_
      exact sw_mask (bs := [true, true, true, true, true, false, false]) hv
    · replace hv := hv.2.2 q
      refine sw_iconst (dX2_stepR.at 15 rfl) ?_
      refine sw_goto (tgt := 56) (dX2_stepR.at 16 rfl) (by decide) ?_
      refine sw_istore (lo' := [some (vr (9)), some (vi (((l : Nat) : Int))), some (vi (((h : Nat) : Int))), some (vi (((t : Nat) : Int))), some (vi (((k : Nat) : Int))), some (vi (f (l + k))), some (vi (0))]) (dX2_stepR.at 34 rfl) (by decide) rfl ?_
      refine sw_aload_n (dX2_stepR.at 35 rfl) rfl rfl ?_
      refine sw_getR (dX2_stepR.at 36 rfl) fp_X2_9 (S_lt 9 (by decide)) (S_9 nw nx g) rfl rfl ?_
      refine sw_iload_n (dX2_stepR.at 37 rfl) rfl rfl ?_
      refine sw_iload (dX2_stepR.at 38 rfl) rfl ?_
      refine sw_iadd (dX2_stepR.at 39 rfl) ?_
      refine sw_topI (y := ((l + k : Nat) : Int)) (by first | rfl | (congr 1)) ?_
      refine sw_iload (dX2_stepR.at 40 rfl) rfl ?_
      refine sw_iload (dX2_stepR.at 41 rfl) rfl ?_
      refine sw_isub (dX2_stepR.at 42 rfl) ?_
      refine sw_iastN (l + k) (dX2_stepR.at 43 rfl) (S_lt 10 (by decide)) (S_10 nw nx g) (by decide) hv.1 ?_
      refine SW.cg (M' := (S nw nx g, 78 + gn, (wr c 10 (u1 f (l + k) (0 - (f (l + k))))))) (congrArg (fun m => (S nw nx g, 78 + gn, m)) (wr_up c 10 f (l + k) (0 - (f (l + k))))) ?_
      replace hv := hv.2
      refine sw_aload_n (dX2_stepR.at 44 rfl) rfl rfl ?_
      refine sw_getR (dX2_stepR.at 45 rfl) fp_X2_9 (S_lt 9 (by decide)) (S_9 nw nx g) rfl rfl ?_
      refine sw_iload_n (dX2_stepR.at 46 rfl) rfl rfl ?_
      refine sw_iload (dX2_stepR.at 47 rfl) rfl ?_
      refine sw_iadd (dX2_stepR.at 48 rfl) ?_
      refine sw_topI (y := ((h + k : Nat) : Int)) (by first | rfl | (congr 1)) ?_
      refine sw_iload (dX2_stepR.at 49 rfl) rfl ?_
      refine sw_iastN (h + k) (dX2_stepR.at 50 rfl) (S_lt 10 (by decide)) (S_10 nw nx g) (by decide) hv.1 ?_
      refine SW.cg (M' := (S nw nx g, 78 + gn, (wr c 10 (u1 (u1 f (l + k) (0 - (f (l + k)))) (h + k) (f (l + k)))))) (congrArg (fun m => (S nw nx g, 78 + gn, m)) (wr_up c 10 (u1 f (l + k) (0 - (f (l + k)))) (h + k) (f (l + k)))) ?_
      replace hv := hv.2
      refine sw_iinc (lo' := [some (vr (9)), some (vi (((l : Nat) : Int))), some (vi (((h : Nat) : Int))), some (vi (((t : Nat) : Int))), some (vi (((k : Nat) : Int) + (-1))), some (vi (f (l + k))), some (vi (0))]) (dX2_stepR.at 51 rfl) rfl (by decide) rfl ?_
      refine sw_goto (tgt := 8) (dX2_stepR.at 52 rfl) (by decide) ?_
      exact sw_mask (bs := [true, true, true, true, true, false, false]) hv

set_option maxHeartbeats 2000000 in
set_option maxRecDepth 20000 in
theorem g_X2_stepR_8e {G : GG} {j nw nx gn : Nat} {g : Nat → Sh} {c : Nat → Nat → Int} {post : Option AV → AM → Prop} {l : Nat} {h : Nat} {t : Nat} {f : Nat → Int}  (hv : post none (S nw nx g, 78 + gn, (wr c 10 f))) :
    SW G (j + 0) mX2_stepR 8 [some (vr (9)), some (vi (((l : Nat) : Int))), some (vi (((h : Nat) : Int))), some (vi (((t : Nat) : Int))), some (vi ((-1))), none, none] [] (S nw nx g, 78 + gn, (wr c 10 f)) B0 post := by
  refine sw_iload (dX2_stepR.at 4 rfl) rfl ?_
  refine sw_if_lt (tgt := 89) (dX2_stepR.at 5 rfl) (by decide) (by decide) (fun q => ?_) (fun q => ?_)
  · clear q
    exact sw_vret (dX2_stepR.at 53 rfl) rfl (Nat.le_refl _) (Nat.le_refl _) hv
  · exact absurd q (by decide)

set_option maxHeartbeats 2000000 in
theorem lp_X2_stepR_8 {G : GG} {j nw nx gn : Nat} {g : Nat → Sh} {c : Nat → Nat → Int} {post : Option AV → AM → Prop} {l h t : Nat} : ∀ k : Nat, l + k ≤ 960 → h + k ≤ 960 → ∀ f : Nat → Int, post none (S nw nx g, 78 + gn, wr c 10 (srF l h f k)) → SW G (j + 0) mX2_stepR 8 [some (vr (9)), some (vi (((l : Nat) : Int))), some (vi (((h : Nat) : Int))), some (vi (((t : Nat) : Int))), some (vi ((k : Int) - 1)), none, none] [] (S nw nx g, 78 + gn, wr c 10 f) B0 post := by
  intro k
  induction k with
  | zero =>
    intro _ _ f K
    have e : (((0 : Nat) : Int) - 1) = (-1) := by omega
    rw [e]
    exact g_X2_stepR_8e K
  | succ k ih =>
    intro hl hh f K
    have e : (((k + 1 : Nat) : Int) - 1) = ((k : Nat) : Int) := by omega
    have e2 : ((k : Nat) : Int) + (-1) = (k : Int) - 1 := by omega
    rw [e]
    rw [srF] at K
    refine g_X2_stepR_8 ?_
    rw [e2]
    refine ⟨?_, ⟨fun q => ?_, fun q => ⟨?_, ⟨?_, ⟨fun q => ⟨?_, ⟨?_, ⟨?_, ⟨?_, ⟨?_, ⟨?_, ?_⟩⟩⟩⟩⟩⟩, fun q => ⟨?_, ⟨?_, ?_⟩⟩⟩⟩⟩⟩⟩
    all_goals first | omega | (exfalso; omega) | (have h0 : k = 0 := (by omega); simp only [h0, if_true, Nat.add_zero] at K ih ⊢; exact ih (by omega) (by omega) _ K) | (have h0 : ¬ k = 0 := (by omega); simp only [h0, if_false] at K; exact ih (by omega) (by omega) _ K)

set_option maxHeartbeats 2000000 in
set_option maxRecDepth 20000 in
theorem g_X2_stepProduct_8 {G : GG} {j nw nx gn : Nat} {g : Nat → Sh} {c : Nat → Nat → Int} {post : Option AV → AM → Prop} {l : Nat} {h : Nat} {t : Nat} {k : Nat} {f : Nat → Int}  (hv : (k < 2147483648) ∧ (((((k : Nat) : Int) < 0) → post none (S nw nx g, 78 + gn, (wr c 10 f))) ∧ ((¬ (((k : Nat) : Int) < 0)) → (k < 2147483648) ∧ (((k ≠ 0) → (1 ≤ h + k) ∧ (((h + k) - 1 < 960) ∧ ((l + k < 960) ∧ ((h + k < 960) ∧ ((h + k < 960) ∧ ((l + k < 960) ∧ (SW G (j + 0) mX2_stepProduct 8 [some (vr (9)), some (vi (((l : Nat) : Int))), some (vi (((h : Nat) : Int))), some (vi (((t : Nat) : Int))), some (vi (((k : Nat) : Int) + (-1))), none] [] (S nw nx g, 78 + gn, (wr c 10 (u1 (u1 f (h + k) (((f (l + k)) + (f ((h + k) - 1))) - (f (h + k)))) (l + k) (f ((h + k) - 1))))) B0 post))))))) ∧ ((k = 0) → (l + k < 960) ∧ ((h + k < 960) ∧ ((h + k < 960) ∧ ((l + k < 960) ∧ (SW G (j + 0) mX2_stepProduct 8 [some (vr (9)), some (vi (((l : Nat) : Int))), some (vi (((h : Nat) : Int))), some (vi (((t : Nat) : Int))), some (vi (((k : Nat) : Int) + (-1))), none] [] (S nw nx g, 78 + gn, (wr c 10 (u1 (u1 f (h + k) (((f (l + k)) + 0) - (f (h + k)))) (l + k) 0))) B0 post))))))))) :
    SW G (j + 0) mX2_stepProduct 8 [some (vr (9)), some (vi (((l : Nat) : Int))), some (vi (((h : Nat) : Int))), some (vi (((t : Nat) : Int))), some (vi (((k : Nat) : Int))), none] [] (S nw nx g, 78 + gn, (wr c 10 f)) B0 post := by
  refine sw_iload (dX2_stepProduct.at 4 rfl) rfl ?_
  refine sw_if_lt (tgt := 83) (dX2_stepProduct.at 5 rfl) (by decide) (nrng hv.1) (fun q => ?_) (fun q => ?_)
  · replace hv := hv.2.1 q
    exact sw_vret (dX2_stepProduct.at 49 rfl) rfl (Nat.le_refl _) (Nat.le_refl _) hv
  · replace hv := hv.2.2 q
    refine sw_iload (dX2_stepProduct.at 6 rfl) rfl ?_
    refine sw_ifN_ne k (tgt := 22) (dX2_stepProduct.at 7 rfl) (by decide) hv.1 (fun q => ?_) (fun q => ?_)
    · replace hv := hv.2.1 q
      refine sw_aload_n (dX2_stepProduct.at 10 rfl) rfl rfl ?_
      refine sw_getR (dX2_stepProduct.at 11 rfl) fp_X2_9 (S_lt 9 (by decide)) (S_9 nw nx g) rfl rfl ?_
      refine sw_iload_n (dX2_stepProduct.at 12 rfl) rfl rfl ?_
      refine sw_iload (dX2_stepProduct.at 13 rfl) rfl ?_
      refine sw_iadd (dX2_stepProduct.at 14 rfl) ?_
      refine sw_topI (y := ((h + k : Nat) : Int)) (by first | rfl | (congr 1)) ?_
      refine sw_iconst (dX2_stepProduct.at 15 rfl) ?_
      refine sw_isub (dX2_stepProduct.at 16 rfl) ?_
      refine sw_topI (y := (((h + k) - 1 : Nat) : Int)) (congrArg _ (Int.ofNat_sub hv.1).symm) ?_
      replace hv := hv.2
      refine sw_ialdN ((h + k) - 1) (w := f ((h + k) - 1)) (dX2_stepProduct.at 17 rfl) (S_lt 10 (by decide)) (S_10 nw nx g) (by decide) hv.1 rfl ?_
      replace hv := hv.2
      refine sw_istore (lo' := [some (vr (9)), some (vi (((l : Nat) : Int))), some (vi (((h : Nat) : Int))), some (vi (((t : Nat) : Int))), some (vi (((k : Nat) : Int))), some (vi (f ((h + k) - 1)))]) (dX2_stepProduct.at 18 rfl) (by decide) rfl ?_
      refine sw_aload_n (dX2_stepProduct.at 19 rfl) rfl rfl ?_
      refine sw_getR (dX2_stepProduct.at 20 rfl) fp_X2_9 (S_lt 9 (by decide)) (S_9 nw nx g) rfl rfl ?_
      refine sw_iload_n (dX2_stepProduct.at 21 rfl) rfl rfl ?_
      refine sw_iload (dX2_stepProduct.at 22 rfl) rfl ?_
      refine sw_iadd (dX2_stepProduct.at 23 rfl) ?_
      refine sw_topI (y := ((h + k : Nat) : Int)) (by first | rfl | (congr 1)) ?_
      refine sw_aload_n (dX2_stepProduct.at 24 rfl) rfl rfl ?_
      refine sw_getR (dX2_stepProduct.at 25 rfl) fp_X2_9 (S_lt 9 (by decide)) (S_9 nw nx g) rfl rfl ?_
      refine sw_iload_n (dX2_stepProduct.at 26 rfl) rfl rfl ?_
      refine sw_iload (dX2_stepProduct.at 27 rfl) rfl ?_
      refine sw_iadd (dX2_stepProduct.at 28 rfl) ?_
      refine sw_topI (y := ((l + k : Nat) : Int)) (by first | rfl | (congr 1)) ?_
      refine sw_ialdN (l + k) (w := f (l + k)) (dX2_stepProduct.at 29 rfl) (S_lt 10 (by decide)) (S_10 nw nx g) (by decide) hv.1 rfl ?_
      replace hv := hv.2
      refine sw_iload (dX2_stepProduct.at 30 rfl) rfl ?_
      refine sw_iadd (dX2_stepProduct.at 31 rfl) ?_
      refine sw_aload_n (dX2_stepProduct.at 32 rfl) rfl rfl ?_
      refine sw_getR (dX2_stepProduct.at 33 rfl) fp_X2_9 (S_lt 9 (by decide)) (S_9 nw nx g) rfl rfl ?_
      refine sw_iload_n (dX2_stepProduct.at 34 rfl) rfl rfl ?_
      refine sw_iload (dX2_stepProduct.at 35 rfl) rfl ?_
      refine sw_iadd (dX2_stepProduct.at 36 rfl) ?_
      refine sw_topI (y := ((h + k : Nat) : Int)) (by first | rfl | (congr 1)) ?_
      refine sw_ialdN (h + k) (w := f (h + k)) (dX2_stepProduct.at 37 rfl) (S_lt 10 (by decide)) (S_10 nw nx g) (by decide) hv.1 rfl ?_
      replace hv := hv.2
      refine sw_isub (dX2_stepProduct.at 38 rfl) ?_
      refine sw_iastN (h + k) (dX2_stepProduct.at 39 rfl) (S_lt 10 (by decide)) (S_10 nw nx g) (by decide) hv.1 ?_
      refine SW.cg (M' := (S nw nx g, 78 + gn, (wr c 10 (u1 f (h + k) (((f (l + k)) + (f ((h + k) - 1))) - (f (h + k))))))) (congrArg (fun m => (S nw nx g, 78 + gn, m)) (wr_up c 10 f (h + k) (((f (l + k)) + (f ((h + k) - 1))) - (f (h + k))))) ?_
      replace hv := hv.2
      refine sw_aload_n (dX2_stepProduct.at 40 rfl) rfl rfl ?_
      refine sw_getR (dX2_stepProduct.at 41 rfl) fp_X2_9 (S_lt 9 (by decide)) (S_9 nw nx g) rfl rfl ?_
      refine sw_iload_n (dX2_stepProduct.at 42 rfl) rfl rfl ?_
      refine sw_iload (dX2_stepProduct.at 43 rfl) rfl ?_
      refine sw_iadd (dX2_stepProduct.at 44 rfl) ?_
      refine sw_topI (y := ((l + k : Nat) : Int)) (by first | rfl | (congr 1)) ?_
      refine sw_iload (dX2_stepProduct.at 45 rfl) rfl ?_
      refine sw_iastN (l + k) (dX2_stepProduct.at 46 rfl) (S_lt 10 (by decide)) (S_10 nw nx g) (by decide) hv.1 ?_
      refine SW.cg (M' := (S nw nx g, 78 + gn, (wr c 10 (u1 (u1 f (h + k) (((f (l + k)) + (f ((h + k) - 1))) - (f (h + k)))) (l + k) (f ((h + k) - 1)))))) (congrArg (fun m => (S nw nx g, 78 + gn, m)) (wr_up c 10 (u1 f (h + k) (((f (l + k)) + (f ((h + k) - 1))) - (f (h + k)))) (l + k) (f ((h + k) - 1)))) ?_
      replace hv := hv.2
      refine sw_iinc (lo' := [some (vr (9)), some (vi (((l : Nat) : Int))), some (vi (((h : Nat) : Int))), some (vi (((t : Nat) : Int))), some (vi (((k : Nat) : Int) + (-1))), some (vi (f ((h + k) - 1)))]) (dX2_stepProduct.at 47 rfl) rfl (by decide) rfl ?_
      refine sw_goto (tgt := 8) (dX2_stepProduct.at 48 rfl) (by decide) ?_
      exact sw_mask (bs := [true, true, true, true, true, false]) hv
    · replace hv := hv.2.2 q
      refine sw_iconst (dX2_stepProduct.at 8 rfl) ?_
      refine sw_goto (tgt := 33) (dX2_stepProduct.at 9 rfl) (by decide) ?_
      refine sw_istore (lo' := [some (vr (9)), some (vi (((l : Nat) : Int))), some (vi (((h : Nat) : Int))), some (vi (((t : Nat) : Int))), some (vi (((k : Nat) : Int))), some (vi (0))]) (dX2_stepProduct.at 18 rfl) (by decide) rfl ?_
      refine sw_aload_n (dX2_stepProduct.at 19 rfl) rfl rfl ?_
      refine sw_getR (dX2_stepProduct.at 20 rfl) fp_X2_9 (S_lt 9 (by decide)) (S_9 nw nx g) rfl rfl ?_
      refine sw_iload_n (dX2_stepProduct.at 21 rfl) rfl rfl ?_
      refine sw_iload (dX2_stepProduct.at 22 rfl) rfl ?_
      refine sw_iadd (dX2_stepProduct.at 23 rfl) ?_
      refine sw_topI (y := ((h + k : Nat) : Int)) (by first | rfl | (congr 1)) ?_
      refine sw_aload_n (dX2_stepProduct.at 24 rfl) rfl rfl ?_
      refine sw_getR (dX2_stepProduct.at 25 rfl) fp_X2_9 (S_lt 9 (by decide)) (S_9 nw nx g) rfl rfl ?_
      refine sw_iload_n (dX2_stepProduct.at 26 rfl) rfl rfl ?_
      refine sw_iload (dX2_stepProduct.at 27 rfl) rfl ?_
      refine sw_iadd (dX2_stepProduct.at 28 rfl) ?_
      refine sw_topI (y := ((l + k : Nat) : Int)) (by first | rfl | (congr 1)) ?_
      refine sw_ialdN (l + k) (w := f (l + k)) (dX2_stepProduct.at 29 rfl) (S_lt 10 (by decide)) (S_10 nw nx g) (by decide) hv.1 rfl ?_
      replace hv := hv.2
      refine sw_iload (dX2_stepProduct.at 30 rfl) rfl ?_
      refine sw_iadd (dX2_stepProduct.at 31 rfl) ?_
      refine sw_aload_n (dX2_stepProduct.at 32 rfl) rfl rfl ?_
      refine sw_getR (dX2_stepProduct.at 33 rfl) fp_X2_9 (S_lt 9 (by decide)) (S_9 nw nx g) rfl rfl ?_
      refine sw_iload_n (dX2_stepProduct.at 34 rfl) rfl rfl ?_
      refine sw_iload (dX2_stepProduct.at 35 rfl) rfl ?_
      refine sw_iadd (dX2_stepProduct.at 36 rfl) ?_
      refine sw_topI (y := ((h + k : Nat) : Int)) (by first | rfl | (congr 1)) ?_
      refine sw_ialdN (h + k) (w := f (h + k)) (dX2_stepProduct.at 37 rfl) (S_lt 10 (by decide)) (S_10 nw nx g) (by decide) hv.1 rfl ?_
      replace hv := hv.2
      refine sw_isub (dX2_stepProduct.at 38 rfl) ?_
      refine sw_iastN (h + k) (dX2_stepProduct.at 39 rfl) (S_lt 10 (by decide)) (S_10 nw nx g) (by decide) hv.1 ?_
      refine SW.cg (M' := (S nw nx g, 78 + gn, (wr c 10 (u1 f (h + k) (((f (l + k)) + 0) - (f (h + k))))))) (congrArg (fun m => (S nw nx g, 78 + gn, m)) (wr_up c 10 f (h + k) (((f (l + k)) + 0) - (f (h + k))))) ?_
      replace hv := hv.2
      refine sw_aload_n (dX2_stepProduct.at 40 rfl) rfl rfl ?_
      refine sw_getR (dX2_stepProduct.at 41 rfl) fp_X2_9 (S_lt 9 (by decide)) (S_9 nw nx g) rfl rfl ?_
      refine sw_iload_n (dX2_stepProduct.at 42 rfl) rfl rfl ?_
      refine sw_iload (dX2_stepProduct.at 43 rfl) rfl ?_
      refine sw_iadd (dX2_stepProduct.at 44 rfl) ?_
      refine sw_topI (y := ((l + k : Nat) : Int)) (by first | rfl | (congr 1)) ?_
      refine sw_iload (dX2_stepProduct.at 45 rfl) rfl ?_
      refine sw_iastN (l + k) (dX2_stepProduct.at 46 rfl) (S_lt 10 (by decide)) (S_10 nw nx g) (by decide) hv.1 ?_
      refine SW.cg (M' := (S nw nx g, 78 + gn, (wr c 10 (u1 (u1 f (h + k) (((f (l + k)) + 0) - (f (h + k)))) (l + k) 0)))) (congrArg (fun m => (S nw nx g, 78 + gn, m)) (wr_up c 10 (u1 f (h + k) (((f (l + k)) + 0) - (f (h + k)))) (l + k) 0)) ?_
      replace hv := hv.2
      refine sw_iinc (lo' := [some (vr (9)), some (vi (((l : Nat) : Int))), some (vi (((h : Nat) : Int))), some (vi (((t : Nat) : Int))), some (vi (((k : Nat) : Int) + (-1))), some (vi (0))]) (dX2_stepProduct.at 47 rfl) rfl (by decide) rfl ?_
      refine sw_goto (tgt := 8) (dX2_stepProduct.at 48 rfl) (by decide) ?_
      exact sw_mask (bs := [true, true, true, true, true, false]) hv

set_option maxHeartbeats 2000000 in
set_option maxRecDepth 20000 in
theorem g_X2_stepProduct_8e {G : GG} {j nw nx gn : Nat} {g : Nat → Sh} {c : Nat → Nat → Int} {post : Option AV → AM → Prop} {l : Nat} {h : Nat} {t : Nat} {f : Nat → Int}  (hv : post none (S nw nx g, 78 + gn, (wr c 10 f))) :
    SW G (j + 0) mX2_stepProduct 8 [some (vr (9)), some (vi (((l : Nat) : Int))), some (vi (((h : Nat) : Int))), some (vi (((t : Nat) : Int))), some (vi ((-1))), none] [] (S nw nx g, 78 + gn, (wr c 10 f)) B0 post := by
  refine sw_iload (dX2_stepProduct.at 4 rfl) rfl ?_
  refine sw_if_lt (tgt := 83) (dX2_stepProduct.at 5 rfl) (by decide) (by decide) (fun q => ?_) (fun q => ?_)
  · clear q
    exact sw_vret (dX2_stepProduct.at 49 rfl) rfl (Nat.le_refl _) (Nat.le_refl _) hv
  · exact absurd q (by decide)

set_option maxHeartbeats 2000000 in
theorem lp_X2_stepProduct_8 {G : GG} {j nw nx gn : Nat} {g : Nat → Sh} {c : Nat → Nat → Int} {post : Option AV → AM → Prop} {l h t : Nat} : ∀ k : Nat, l + k ≤ 960 → h + k ≤ 960 → ∀ f : Nat → Int, post none (S nw nx g, 78 + gn, wr c 10 (spF l h f k)) → SW G (j + 0) mX2_stepProduct 8 [some (vr (9)), some (vi (((l : Nat) : Int))), some (vi (((h : Nat) : Int))), some (vi (((t : Nat) : Int))), some (vi ((k : Int) - 1)), none] [] (S nw nx g, 78 + gn, wr c 10 f) B0 post := by
  intro k
  induction k with
  | zero =>
    intro _ _ f K
    have e : (((0 : Nat) : Int) - 1) = (-1) := by omega
    rw [e]
    exact g_X2_stepProduct_8e K
  | succ k ih =>
    intro hl hh f K
    have e : (((k + 1 : Nat) : Int) - 1) = ((k : Nat) : Int) := by omega
    have e2 : ((k : Nat) : Int) + (-1) = (k : Int) - 1 := by omega
    rw [e]
    rw [spF] at K
    refine g_X2_stepProduct_8 ?_
    rw [e2]
    refine ⟨?_, ⟨fun q => ?_, fun q => ⟨?_, ⟨fun q => ⟨?_, ⟨?_, ⟨?_, ⟨?_, ⟨?_, ⟨?_, ?_⟩⟩⟩⟩⟩⟩, fun q => ⟨?_, ⟨?_, ⟨?_, ⟨?_, ?_⟩⟩⟩⟩⟩⟩⟩⟩
    all_goals first | omega | (exfalso; omega) | (have h0 : k = 0 := (by omega); simp only [h0, if_true, Nat.add_zero] at K ih ⊢; exact ih (by omega) (by omega) _ K) | (have h0 : ¬ k = 0 := (by omega); simp only [h0, if_false] at K; exact ih (by omega) (by omega) _ K)

set_option maxHeartbeats 2000000 in
set_option maxRecDepth 20000 in
theorem g_X2_stepR_0 {G : GG} {j nw nx gn : Nat} {g : Nat → Sh} {c : Nat → Nat → Int} {post : Option AV → AM → Prop} {l : Nat} {h : Nat} {t : Nat}  (hv : (t < 2147483648) ∧ (SW G (j + 0) mX2_stepR 8 [some (vr (9)), some (vi (((l : Nat) : Int))), some (vi (((h : Nat) : Int))), some (vi (((t : Nat) : Int))), some (vi ((((min t 15) : Nat) : Int))), none, none] [] (S nw nx g, 78 + gn, c) B0 post)) :
    SW G (j + 0) mX2_stepR 0 [some (vr (9)), some (vi (((l : Nat) : Int))), some (vi (((h : Nat) : Int))), some (vi (((t : Nat) : Int))), none, none, none] [] (S nw nx g, 78 + gn, c) B0 post := by
  refine sw_iload_n (dX2_stepR.at 0 rfl) rfl rfl ?_
  refine sw_bipush (dX2_stepR.at 1 rfl) (by decide) ?_
  refine sw_imin (dX2_stepR.at 2 rfl) lk_X2_49 (Nat.le_of_ble_eq_true rfl) (Nat.le_refl _) (Nat.le_refl _) (nrng hv.1) (by decide) ?_
  refine sw_topI (y := (((min t 15) : Nat) : Int)) (congrArg _ (min_if _ _)) ?_
  replace hv := hv.2
  refine sw_istore (lo' := [some (vr (9)), some (vi (((l : Nat) : Int))), some (vi (((h : Nat) : Int))), some (vi (((t : Nat) : Int))), some (vi ((((min t 15) : Nat) : Int))), none, none]) (dX2_stepR.at 3 rfl) (by decide) rfl ?_
  exact hv

set_option maxHeartbeats 2000000 in
theorem c_X2_stepR {G : GG} {j nw nx gn : Nat} {g : Nat → Sh} {c : Nat → Nat → Int} {post : Option AV → AM → Prop} {l : Nat} {h : Nat} {t : Nat} (p1 : l + 16 ≤ 960) (p2 : h + 16 ≤ 960) (p3 : t < 100) (K : post none (S nw nx g, 78 + gn, (wr c 10 (srF l h (c 10) (min t 15 + 1))))) : SM G (j + 1) mX2_stepR [vr (9), vi (((l : Nat) : Int)), vi (((h : Nat) : Int)), vi (((t : Nat) : Int))] (S nw nx g, 78 + gn, c) 0 0 post := by
  refine sm_of wX2_stepR rfl (Nat.le_of_ble_eq_true rfl) ?_
  refine g_X2_stepR_0  ?_
  have h := lp_X2_stepR_8 (G := G) (j := j) (nw := nw) (nx := nx) (gn := gn) (g := g) (c := c) (post := post) (l := l) (h := h) (t := t) (min t 15 + 1) (by omega) (by omega) (c 10) K
  rw [wr_self] at h
  have e : (((min t 15 + 1 : Nat) : Int) - 1) = ((min t 15 : Nat) : Int) := by omega
  rw [e] at h
  exact ⟨by omega, h⟩

set_option maxHeartbeats 2000000 in
set_option maxRecDepth 20000 in
theorem g_X2_stepProduct_0 {G : GG} {j nw nx gn : Nat} {g : Nat → Sh} {c : Nat → Nat → Int} {post : Option AV → AM → Prop} {l : Nat} {h : Nat} {t : Nat}  (hv : (t < 2147483648) ∧ (SW G (j + 0) mX2_stepProduct 8 [some (vr (9)), some (vi (((l : Nat) : Int))), some (vi (((h : Nat) : Int))), some (vi (((t : Nat) : Int))), some (vi ((((min t 15) : Nat) : Int))), none] [] (S nw nx g, 78 + gn, c) B0 post)) :
    SW G (j + 0) mX2_stepProduct 0 [some (vr (9)), some (vi (((l : Nat) : Int))), some (vi (((h : Nat) : Int))), some (vi (((t : Nat) : Int))), none, none] [] (S nw nx g, 78 + gn, c) B0 post := by
  refine sw_iload_n (dX2_stepProduct.at 0 rfl) rfl rfl ?_
  refine sw_bipush (dX2_stepProduct.at 1 rfl) (by decide) ?_
  refine sw_imin (dX2_stepProduct.at 2 rfl) lk_X2_49 (Nat.le_of_ble_eq_true rfl) (Nat.le_refl _) (Nat.le_refl _) (nrng hv.1) (by decide) ?_
  refine sw_topI (y := (((min t 15) : Nat) : Int)) (congrArg _ (min_if _ _)) ?_
  replace hv := hv.2
  refine sw_istore (lo' := [some (vr (9)), some (vi (((l : Nat) : Int))), some (vi (((h : Nat) : Int))), some (vi (((t : Nat) : Int))), some (vi ((((min t 15) : Nat) : Int))), none]) (dX2_stepProduct.at 3 rfl) (by decide) rfl ?_
  exact hv

set_option maxHeartbeats 2000000 in
theorem c_X2_stepProduct {G : GG} {j nw nx gn : Nat} {g : Nat → Sh} {c : Nat → Nat → Int} {post : Option AV → AM → Prop} {l : Nat} {h : Nat} {t : Nat} (p1 : l + 16 ≤ 960) (p2 : h + 16 ≤ 960) (p3 : t < 100) (K : post none (S nw nx g, 78 + gn, (wr c 10 (spF l h (c 10) (min t 15 + 1))))) : SM G (j + 1) mX2_stepProduct [vr (9), vi (((l : Nat) : Int)), vi (((h : Nat) : Int)), vi (((t : Nat) : Int))] (S nw nx g, 78 + gn, c) 0 0 post := by
  refine sm_of wX2_stepProduct rfl (Nat.le_of_ble_eq_true rfl) ?_
  refine g_X2_stepProduct_0  ?_
  have h := lp_X2_stepProduct_8 (G := G) (j := j) (nw := nw) (nx := nx) (gn := gn) (g := g) (c := c) (post := post) (l := l) (h := h) (t := t) (min t 15 + 1) (by omega) (by omega) (c 10) K
  rw [wr_self] at h
  have e : (((min t 15 + 1 : Nat) : Int) - 1) = ((min t 15 : Nat) : Int) := by omega
  rw [e] at h
  exact ⟨by omega, h⟩

