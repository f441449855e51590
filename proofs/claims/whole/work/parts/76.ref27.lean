def sumN (f : Nat → Int) : Nat → Int
  | 0 => 0
  | n + 1 => sumN f n + f n
theorem sumN_cong {f f2 : Nat → Int} : ∀ n, (∀ i, i < n → f i = f2 i) → sumN f n = sumN f2 n := by
  intro n
  induction n with
  | zero => intro _; rfl
  | succ n ih => intro h; rw [sumN, sumN, ih (fun i hi => h i (by omega)), h n (by omega)]
theorem sumN_0 : ∀ n, sumN (fun _ => 0) n = 0 := by
  intro n
  induction n with
  | zero => rfl
  | succ n ih => rw [sumN, ih]; rfl
theorem sumN_add (f g : Nat → Int) : ∀ n, sumN (fun i => f i + g i) n = sumN f n + sumN g n := by
  intro n
  induction n with
  | zero => rfl
  | succ n ih => rw [sumN, sumN, sumN, ih]; omega
theorem sumN_swap (a : Nat → Nat → Int) (M : Nat) : ∀ N, sumN (fun x => sumN (a x) M) N = sumN (fun i => sumN (fun x => a x i) N) M := by
  intro N
  induction N with
  | zero => rw [sumN]; exact (sumN_0 M).symm
  | succ N ih => rw [sumN, ih, ← sumN_add]; exact sumN_cong M (fun i _ => rfl)
theorem sumN_one (f : Nat → Int) (k : Nat) (h : ∀ i, i ≠ k → f i = 0) : ∀ n, sumN f n = if k < n then f k else 0 := by
  intro n
  induction n with
  | zero => rfl
  | succ n ih =>
    rw [sumN, ih]
    by_cases e : k = n
    · subst e; rw [if_neg (by omega), if_pos (by omega)]; omega
    · rw [h n (fun q => e q.symm)]
      by_cases h2 : k < n
      · rw [if_pos h2, if_pos (by omega)]; omega
      · rw [if_neg h2, if_neg (by omega)]; rfl
theorem sMir_sum (P : GD) (f : Nat → Int) (x : Nat) : ∀ n, sMir P f x n = sumN (fun i => if gL P (gX P x (gT P i)) < gL P x then f (gX P x (gT P i)) else 0) n := by
  intro n
  induction n with
  | zero => rfl
  | succ n ih =>
    rw [sMir, sumN, ih]
    split <;> simp
def tm (P : GD) (F : Nat → Int) (y x i : Nat) : Int := if gX P x (gT P i) = y ∧ gL P x < gL P y then F x else 0
theorem tm_all {P : GD} (hV : GV P) (hm : hMi P) {F : Nat → Int} {y : Nat} (hy : y < gN P) : sumN (fun x => sumN (tm P F y x) (gM P)) (gN P) = sMir P F y (gM P) := by
  rw [sumN_swap, sMir_sum]
  refine sumN_cong _ (fun i hi => ?_)
  have t1 := hV.2.2.2.2.2 i hi
  have y1 := hV.2.2.2.2.1 y _ hy t1
  have inv := hm.2.2.2.2
  rw [sumN_cong (f2 := fun x => if x < gN P then tm P F y x i else 0) _ (fun x hx => by rw [if_pos hx]), sumN_one _ (gX P y (gT P i)) (fun x hx => ?_), if_pos y1, if_pos y1, tm]
  · by_cases h : gL P (gX P y (gT P i)) < gL P y
    · rw [if_pos ⟨inv y i hy hi, h⟩, if_pos h]
    · rw [if_neg (fun q => h q.2), if_neg h]
  · split
    · rename_i hxN
      rw [tm, if_neg (fun q => hx ?_)]
      rw [← q.1, inv x i hxN hi]
    · rfl
def gst (P : GD) (x : Nat) : Nat → Nat → Int
  | 0 => fun i => if i = x then 1 else 0
  | t + 1 => fun q => sMir P (gst P x t) q (gM P)
theorem sMir_low {P : GD} (hV : GV P) (hB : hBr P) {x : Nat} (hx : x < gN P) {f f2 : Nat → Int} (h : ∀ i, i < x → f i = f2 i) : ∀ n, n ≤ gM P → sMir P f x n = sMir P f2 x n := by
  intro n
  induction n with
  | zero => intro _; rfl
  | succ n ih =>
    intro hn
    have hb := hV.2.2.2.2.1 x (gT P n) hx (hV.2.2.2.2.2 n (by omega))
    rw [sMir, sMir, ih (by omega)]
    split
    · rename_i hl; rw [h _ (hB.1 _ _ hb hx hl)]
    · rfl
theorem paF_at {P : GD} (hV : GV P) (hB : hBr P) : ∀ k, k ≤ gN P → ∀ f i, paF P f k i = if i < k then sMir P f i (gM P) else f i := by
  intro k
  induction k with
  | zero => intro _ f i; rw [paF, if_neg (by omega)]
  | succ k ih =>
    intro hk f i
    rw [paF, ih (by omega)]
    by_cases h : i < k
    · rw [if_pos h, if_pos (by omega)]
      refine sMir_low hV hB (by omega) (fun q hq => ?_) _ (Nat.le_refl _)
      show (if _ then _ else _) = _
      rw [if_neg (by omega)]
    · rw [if_neg h]
      show (if _ then _ else _) = _
      by_cases e : i = k
      · rw [if_pos e, if_pos (by omega), e]
      · rw [if_neg e, if_neg (by omega)]
theorem opF_gst {P : GD} (hV : GV P) (hB : hBr P) {x y : Nat} (hy : y < gN P) : ∀ d q, q ≤ y → opF P x y d q = gst P x d q := by
  intro d
  induction d with
  | zero => intro q _; rfl
  | succ d ih =>
    intro q hq
    rw [opF, paF_at hV hB (y + 1) (by omega), if_pos (by omega), gst]
    exact sMir_low hV hB (by omega) (fun i hi => ih i (by omega)) _ (Nat.le_refl _)
theorem gst_bd {P : GD} (hV : GV P) (hm : hMi P) {x : Nat} : ∀ t q, q < gN P → 0 ≤ gst P x t q ∧ gst P x t q ≤ ((15 ^ t : Nat) : Int) ∧ (gL P q < t → gst P x t q = 0) := by
  intro t
  induction t with
  | zero =>
    intro q _
    refine ⟨?_, ?_, fun h => by omega⟩
    · by_cases e : q = x <;> simp [gst, e]
    · by_cases e : q = x <;> simp [gst, e]
  | succ t ih =>
    intro q hq
    show 0 ≤ sMir P (gst P x t) q (gM P) ∧ sMir P (gst P x t) q (gM P) ≤ ((15 ^ (t + 1) : Nat) : Int) ∧ (gL P q < t + 1 → sMir P (gst P x t) q (gM P) = 0)
    have key : ∀ n, n ≤ gM P → 0 ≤ sMir P (gst P x t) q n ∧ sMir P (gst P x t) q n ≤ ((n * 15 ^ t : Nat) : Int) ∧ (gL P q < t + 1 → sMir P (gst P x t) q n = 0) := by
      intro n
      induction n with
      | zero => intro _; rw [sMir]; exact ⟨by decide, by simp, fun _ => rfl⟩
      | succ n ihn =>
        intro hn
        obtain ⟨a, b, d⟩ := ihn (by omega)
        have hb := hV.2.2.2.2.1 q (gT P n) hq (hV.2.2.2.2.2 n (by omega))
        obtain ⟨e1, e2, e3⟩ := ih _ hb
        rw [sMir]
        have em : (n + 1) * 15 ^ t = n * 15 ^ t + 15 ^ t := by rw [Nat.add_mul, Nat.one_mul]
        rw [em]
        split
        · rename_i hl
          refine ⟨by omega, by omega, fun h => ?_⟩
          rw [d h, e3 (by omega)]; rfl
        · exact ⟨a, by omega, d⟩
    obtain ⟨a, b, d⟩ := key (gM P) (Nat.le_refl _)
    refine ⟨a, ?_, d⟩
    have h15 := hm.1
    have : gM P * 15 ^ t ≤ 15 ^ (t + 1) := by rw [Nat.pow_succ, Nat.mul_comm (15 ^ t)]; exact Nat.mul_le_mul_right _ h15
    omega
theorem gst_rng {P : GD} (hV : GV P) (hm : hMi P) {x t q : Nat} (hq : q < gN P) : 0 ≤ gst P x t q ∧ gst P x t q < 9223372036854775808 := by
  obtain ⟨a, b, d⟩ := gst_bd hV hm (x := x) t q hq
  have l := (hV.2.2.1 q hq).1
  refine ⟨a, ?_⟩
  by_cases h : 13 < t
  · rw [d (by omega)]; decide
  · have : 15 ^ t ≤ 15 ^ 13 := Nat.pow_le_pow_right (by decide) (by omega)
    have : (15 : Nat) ^ 13 = 1946195068359375 := by decide
    omega
theorem gst_top {P : GD} (hV : GV P) (hm : hMi P) (hB : hBr P) {x u y : Nat} (hy : y < gN P) : gst P x u y = gst P x (min u (gTop P + 1)) y := by
  have htop : gL P y ≤ gTop P := by
    rw [gTop, if_neg (by omega)]
    apply Classical.byContradiction
    intro h
    have := hB.1 (gN P - 1) y (by omega) hy (by omega)
    omega
  by_cases h : u ≤ gTop P + 1
  · rw [Nat.min_eq_left h]
  · rw [Nat.min_eq_right (by omega), (gst_bd hV hm u y hy).2.2 (by omega), (gst_bd hV hm (gTop P + 1) y hy).2.2 (by omega)]
set_option maxHeartbeats 2000000 in
set_option maxRecDepth 20000 in
theorem g_X9_paths_118 {G : GG} {j nw nx gn : Nat} {g : Nat → Sh} {c : Nat → Nat → Int} {post : Option AV → AM → Prop} {x : Nat} {y : Nat} {u : Nat} {P : GD} {F : Nat → Int} {H : Nat → Int} {s : Nat → Int} {t : Nat} {z : Nat} {i : Nat} (hM : ML c P) (hV : GV P) (hC : GC P)  (hv : (i < 2147483648) ∧ (gM P < 2147483648) ∧ (((gM P ≤ i) → SW G (j + 2) mX9_paths 106 [some (vr (49)), some (vi (((x : Nat) : Int))), some (vi (((y : Nat) : Int))), some (vi (((u : Nat) : Int))), some (vi (((t : Nat) : Int))), some (vi (((z + 1 : Nat) : Int))), none, none] [] (S nw nx g, 78 + gn, (wr (wr (wr c 67 F) 72 H) 61 s)) B0 post) ∧ ((¬ (gM P ≤ i)) → (z < 60) ∧ ((-9223372036854775808 ≤ F z ∧ F z < 9223372036854775808) ∧ (((F z ≤ 0) → SW G (j + 2) mX9_paths 106 [some (vr (49)), some (vi (((x : Nat) : Int))), some (vi (((y : Nat) : Int))), some (vi (((u : Nat) : Int))), some (vi (((t : Nat) : Int))), some (vi (((z + 1 : Nat) : Int))), none, none] [] (S nw nx g, 78 + gn, (wr (wr (wr c 67 F) 72 H) 61 s)) B0 post) ∧ ((¬ (F z ≤ 0)) → (i < gM P) ∧ ((z < gN P) ∧ ((gT P i) < gN P) ∧ (∀ s_1 : Nat → Int, True → (gX P z (gT P i) < 60) ∧ ((gX P z (gT P i) < gN P) ∧ ((z < gN P) ∧ ((gL P (gX P z (gT P i)) < 2147483648) ∧ (gL P z < 2147483648) ∧ (((gL P (gX P z (gT P i)) ≤ gL P z) → (gX P z (gT P i) < 60) ∧ (SW G (j + 2) mX9_paths 118 [some (vr (49)), some (vi (((x : Nat) : Int))), some (vi (((y : Nat) : Int))), some (vi (((u : Nat) : Int))), some (vi (((t : Nat) : Int))), some (vi (((z : Nat) : Int))), some (vi (((i + 1 : Nat) : Int))), none] [] (S nw nx g, 78 + gn, (wr (wr (wr c 67 F) 72 (u1 H (gX P z (gT P i)) ((H (gX P z (gT P i))) + 0))) 61 s_1)) B0 post)) ∧ ((¬ (gL P (gX P z (gT P i)) ≤ gL P z)) → (z < 60) ∧ ((gX P z (gT P i) < 60) ∧ (SW G (j + 2) mX9_paths 118 [some (vr (49)), some (vi (((x : Nat) : Int))), some (vi (((y : Nat) : Int))), some (vi (((u : Nat) : Int))), some (vi (((t : Nat) : Int))), some (vi (((z : Nat) : Int))), some (vi (((i + 1 : Nat) : Int))), none] [] (S nw nx g, 78 + gn, (wr (wr (wr c 67 F) 72 (u1 H (gX P z (gT P i)) ((H (gX P z (gT P i))) + (F z)))) 61 s_1)) B0 post))))))))))))))) :
    SW G (j + 2) mX9_paths 118 [some (vr (49)), some (vi (((x : Nat) : Int))), some (vi (((y : Nat) : Int))), some (vi (((u : Nat) : Int))), some (vi (((t : Nat) : Int))), some (vi (((z : Nat) : Int))), some (vi (((i : Nat) : Int))), none] [] (S nw nx g, 78 + gn, (wr (wr (wr c 67 F) 72 H) 61 s)) B0 post := by
  refine sw_iload (dX9_paths_1.at 10 rfl) rfl ?_
  refine sw_aload_n (dX9_paths_1.at 11 rfl) rfl rfl ?_
  refine sw_getIE (w := ((gM P : Nat) : Int)) (dX9_paths_1.at 12 rfl) fp_X9_215 (S_lt 49 (by decide)) (S_49 nw nx g) rfl ((wr_off (c := (wr (wr c 67 F) 72 H)) (a := 61) (f := s) (i := 49) (k := 21) (by decide)).trans ((wr_off (c := (wr c 67 F)) (a := 72) (f := H) (i := 49) (k := 21) (by decide)).trans ((wr_off (c := c) (a := 67) (f := F) (i := 49) (k := 21) (by decide)).trans hM.1.2.2.1))) ?_
  refine sw_icmpN_ge i (gM P) (tgt := 198) (dX9_paths_1.at 13 rfl) (by decide) hv.1 hv.2.1 (fun q => ?_) (fun q => ?_)
  · replace hv := hv.2.2.1 q
    refine sw_iinc (lo' := [some (vr (49)), some (vi (((x : Nat) : Int))), some (vi (((y : Nat) : Int))), some (vi (((u : Nat) : Int))), some (vi (((t : Nat) : Int))), some (vi (((z + 1 : Nat) : Int))), some (vi (((i : Nat) : Int))), none]) (dX9_paths_2.at 3 rfl) rfl (by decide) rfl ?_
    refine sw_goto (tgt := 106) (dX9_paths_2.at 4 rfl) (by decide) ?_
    exact sw_mask (bs := [true, true, true, true, true, true, false, false]) hv
  · replace hv := hv.2.2.2 q
    refine sw_aload_n (dX9_paths_1.at 14 rfl) rfl rfl ?_
    refine sw_getR (dX9_paths_1.at 15 rfl) fp_X9_67 (S_lt 49 (by decide)) (S_49 nw nx g) rfl rfl ?_
    refine sw_iload (dX9_paths_1.at 16 rfl) rfl ?_
    refine sw_laldN z (w := F z) (dX9_paths_1.at 17 rfl) (S_lt 67 (by decide)) (S_67 nw nx g) (by decide) hv.1 rfl ?_
    replace hv := hv.2
    refine sw_lconst (z := 0) (dX9_paths_1.at 18 rfl) (by decide) ?_
    refine sw_lcmp_le (tgt := 198) (dX9_paths_1.at 19 rfl) (dX9_paths_1.at 20 rfl) (by decide) hv.1 (by decide) (fun q => ?_) (fun q => ?_)
    · replace hv := hv.2.1 q
      refine sw_iinc (lo' := [some (vr (49)), some (vi (((x : Nat) : Int))), some (vi (((y : Nat) : Int))), some (vi (((u : Nat) : Int))), some (vi (((t : Nat) : Int))), some (vi (((z + 1 : Nat) : Int))), some (vi (((i : Nat) : Int))), none]) (dX9_paths_2.at 3 rfl) rfl (by decide) rfl ?_
      refine sw_goto (tgt := 106) (dX9_paths_2.at 4 rfl) (by decide) ?_
      exact sw_mask (bs := [true, true, true, true, true, true, false, false]) hv
    · replace hv := hv.2.2 q
      refine sw_aload_n (dX9_paths_1.at 21 rfl) rfl rfl ?_
      refine sw_iload (dX9_paths_1.at 22 rfl) rfl ?_
      refine sw_aload_n (dX9_paths_1.at 23 rfl) rfl rfl ?_
      refine sw_getR (dX9_paths_1.at 24 rfl) fp_X9_44 (S_lt 49 (by decide)) (S_49 nw nx g) rfl rfl ?_
      refine sw_iload (dX9_paths_1.at 25 rfl) rfl ?_
      refine sw_ialdN i (w := ((gT P i : Nat) : Int)) (dX9_paths_1.at 26 rfl) (S_lt 60 (by decide)) (S_60 nw nx g) (by decide) (GV_ltM hV hv.1) (ML_T (ML_SC hM (SC_wr (SC_wr (SC_wr SC_rf (a := 67) (f := F) (by decide)) (a := 72) (f := H) (by decide)) (a := 61) (f := s) (by decide))) hv.1) ?_
      replace hv := hv.2
      refine sw_callV (B' := B0) (As := [vi (((z : Nat) : Int)), vi (((gT P i : Nat) : Int))]) (mc := 0) (ms := 0) (dX9_paths_1.at 27 rfl) lk_X9_237 (S_lt 49 (by decide)) (S_49 nw nx g) rfl rfl (Nat.le_of_ble_eq_true rfl) rfl (Nat.le_refl _) (Nat.le_refl _) ?_
      refine c_X9_productV (c := (wr (wr c 67 F) 72 H)) (s := s) (x := z) (y := (gT P i)) (j := j + 0) (ML_SC hM (SC_wr (SC_wr SC_rf (a := 67) (f := F) (by decide)) (a := 72) (f := H) (by decide))) hV hC hv.1 hv.2.1 (fun s_1 h_1 => ?_)
      replace hv := hv.2.2 s_1 h_1
      refine sw_istore (lo' := [some (vr (49)), some (vi (((x : Nat) : Int))), some (vi (((y : Nat) : Int))), some (vi (((u : Nat) : Int))), some (vi (((t : Nat) : Int))), some (vi (((z : Nat) : Int))), some (vi (((i : Nat) : Int))), some (vi (((gX P z (gT P i) : Nat) : Int)))]) (dX9_paths_1.at 28 rfl) (by decide) rfl ?_
      refine sw_aload_n (dX9_paths_1.at 29 rfl) rfl rfl ?_
      refine sw_getR (dX9_paths_1.at 30 rfl) fp_X9_83 (S_lt 49 (by decide)) (S_49 nw nx g) rfl rfl ?_
      refine sw_iload (dX9_paths_1.at 31 rfl) rfl ?_
      refine sw_dup2 (dX9_paths_1.at 32 rfl) (fun _ h => by cases h) (fun _ h => by cases h) ?_
      refine sw_laldN (gX P z (gT P i)) (w := H (gX P z (gT P i))) (dX9_paths_1.at 33 rfl) (S_lt 72 (by decide)) (S_72 nw nx g) (by decide) hv.1 rfl ?_
      replace hv := hv.2
      refine sw_aload_n (dX9_paths_1.at 34 rfl) rfl rfl ?_
      refine sw_getR (dX9_paths_1.at 35 rfl) fp_X9_32 (S_lt 49 (by decide)) (S_49 nw nx g) rfl rfl ?_
      refine sw_iload (dX9_paths_1.at 36 rfl) rfl ?_
      refine sw_ialdN (gX P z (gT P i)) (w := ((gL P (gX P z (gT P i)) : Nat) : Int)) (dX9_paths_1.at 37 rfl) (S_lt 56 (by decide)) (S_56 nw nx g) (by decide) (GV_lt hV hv.1) (ML_L (ML_SC hM (SC_wr (SC_wr (SC_wr SC_rf (a := 67) (f := F) (by decide)) (a := 72) (f := H) (by decide)) (a := 61) (f := s_1) (by decide))) hv.1) ?_
      replace hv := hv.2
      refine sw_aload_n (dX9_paths_1.at 38 rfl) rfl rfl ?_
      refine sw_getR (dX9_paths_1.at 39 rfl) fp_X9_32 (S_lt 49 (by decide)) (S_49 nw nx g) rfl rfl ?_
      refine sw_iload (dX9_paths_1.at 40 rfl) rfl ?_
      refine sw_ialdN z (w := ((gL P z : Nat) : Int)) (dX9_paths_1.at 41 rfl) (S_lt 56 (by decide)) (S_56 nw nx g) (by decide) (GV_lt hV hv.1) (ML_L (ML_SC hM (SC_wr (SC_wr (SC_wr SC_rf (a := 67) (f := F) (by decide)) (a := 72) (f := H) (by decide)) (a := 61) (f := s_1) (by decide))) hv.1) ?_
      replace hv := hv.2
      refine sw_icmpN_le (gL P (gX P z (gT P i))) (gL P z) (tgt := 189) (dX9_paths_1.at 42 rfl) (by decide) hv.1 hv.2.1 (fun q => ?_) (fun q => ?_)
      · replace hv := hv.2.2.1 q
        refine sw_lconst (z := 0) (dX9_paths_1.at 48 rfl) (by decide) ?_
        refine sw_ladd (dX9_paths_1.at 49 rfl) ?_
        refine sw_lastN (gX P z (gT P i)) (dX9_paths_2.at 0 rfl) (S_lt 72 (by decide)) (S_72 nw nx g) (by decide) hv.1 ?_
        refine SW.cg (M' := (S nw nx g, 78 + gn, (wr (wr (wr c 67 F) 72 (u1 H (gX P z (gT P i)) ((H (gX P z (gT P i))) + 0))) 61 s_1))) (congrArg (fun m => (S nw nx g, 78 + gn, m)) ((wr_up_in (wr (wr c 67 F) 72 H) 61 s_1 72 (gX P z (gT P i)) ((H (gX P z (gT P i))) + 0) (by decide)).trans (congrArg (fun m => wr m 61 s_1) (wr_up (wr c 67 F) 72 H (gX P z (gT P i)) ((H (gX P z (gT P i))) + 0))))) ?_
        replace hv := hv.2
        refine sw_iinc (lo' := [some (vr (49)), some (vi (((x : Nat) : Int))), some (vi (((y : Nat) : Int))), some (vi (((u : Nat) : Int))), some (vi (((t : Nat) : Int))), some (vi (((z : Nat) : Int))), some (vi (((i + 1 : Nat) : Int))), some (vi (((gX P z (gT P i) : Nat) : Int)))]) (dX9_paths_2.at 1 rfl) rfl (by decide) rfl ?_
        refine sw_goto (tgt := 118) (dX9_paths_2.at 2 rfl) (by decide) ?_
        exact sw_mask (bs := [true, true, true, true, true, true, true, false]) hv
      · replace hv := hv.2.2.2 q
        refine sw_aload_n (dX9_paths_1.at 43 rfl) rfl rfl ?_
        refine sw_getR (dX9_paths_1.at 44 rfl) fp_X9_67 (S_lt 49 (by decide)) (S_49 nw nx g) rfl rfl ?_
        refine sw_iload (dX9_paths_1.at 45 rfl) rfl ?_
        refine sw_laldN z (w := F z) (dX9_paths_1.at 46 rfl) (S_lt 67 (by decide)) (S_67 nw nx g) (by decide) hv.1 rfl ?_
        replace hv := hv.2
        refine sw_goto (tgt := 190) (dX9_paths_1.at 47 rfl) (by decide) ?_
        refine sw_ladd (dX9_paths_1.at 49 rfl) ?_
        refine sw_lastN (gX P z (gT P i)) (dX9_paths_2.at 0 rfl) (S_lt 72 (by decide)) (S_72 nw nx g) (by decide) hv.1 ?_
        refine SW.cg (M' := (S nw nx g, 78 + gn, (wr (wr (wr c 67 F) 72 (u1 H (gX P z (gT P i)) ((H (gX P z (gT P i))) + (F z)))) 61 s_1))) (congrArg (fun m => (S nw nx g, 78 + gn, m)) ((wr_up_in (wr (wr c 67 F) 72 H) 61 s_1 72 (gX P z (gT P i)) ((H (gX P z (gT P i))) + (F z)) (by decide)).trans (congrArg (fun m => wr m 61 s_1) (wr_up (wr c 67 F) 72 H (gX P z (gT P i)) ((H (gX P z (gT P i))) + (F z)))))) ?_
        replace hv := hv.2
        refine sw_iinc (lo' := [some (vr (49)), some (vi (((x : Nat) : Int))), some (vi (((y : Nat) : Int))), some (vi (((u : Nat) : Int))), some (vi (((t : Nat) : Int))), some (vi (((z : Nat) : Int))), some (vi (((i + 1 : Nat) : Int))), some (vi (((gX P z (gT P i) : Nat) : Int)))]) (dX9_paths_2.at 1 rfl) rfl (by decide) rfl ?_
        refine sw_goto (tgt := 118) (dX9_paths_2.at 2 rfl) (by decide) ?_
        exact sw_mask (bs := [true, true, true, true, true, true, true, false]) hv

set_option maxHeartbeats 2000000 in
set_option maxRecDepth 20000 in
theorem g_X9_paths_106 {G : GG} {j nw nx gn : Nat} {g : Nat → Sh} {c : Nat → Nat → Int} {post : Option AV → AM → Prop} {x : Nat} {y : Nat} {u : Nat} {P : GD} {F : Nat → Int} {H : Nat → Int} {s : Nat → Int} {t : Nat} {z : Nat} (hM : ML c P) (hV : GV P)  (hv : (z < 2147483648) ∧ (gN P < 2147483648) ∧ (((gN P ≤ z) → SW G (j + 2) mX9_paths 207 [some (vr (49)), some (vi (((x : Nat) : Int))), some (vi (((y : Nat) : Int))), some (vi (((u : Nat) : Int))), some (vi (((t : Nat) : Int))), some (vi (0)), none, none] [] (S nw nx g, 78 + gn, (wr (wr (wr c 67 F) 72 H) 61 s)) B0 post) ∧ ((¬ (gN P ≤ z)) → SW G (j + 2) mX9_paths 118 [some (vr (49)), some (vi (((x : Nat) : Int))), some (vi (((y : Nat) : Int))), some (vi (((u : Nat) : Int))), some (vi (((t : Nat) : Int))), some (vi (((z : Nat) : Int))), some (vi (0)), none] [] (S nw nx g, 78 + gn, (wr (wr (wr c 67 F) 72 H) 61 s)) B0 post))) :
    SW G (j + 2) mX9_paths 106 [some (vr (49)), some (vi (((x : Nat) : Int))), some (vi (((y : Nat) : Int))), some (vi (((u : Nat) : Int))), some (vi (((t : Nat) : Int))), some (vi (((z : Nat) : Int))), none, none] [] (S nw nx g, 78 + gn, (wr (wr (wr c 67 F) 72 H) 61 s)) B0 post := by
  refine sw_iload (dX9_paths_1.at 4 rfl) rfl ?_
  refine sw_aload_n (dX9_paths_1.at 5 rfl) rfl rfl ?_
  refine sw_getIE (w := ((gN P : Nat) : Int)) (dX9_paths_1.at 6 rfl) fp_X9_196 (S_lt 49 (by decide)) (S_49 nw nx g) rfl ((wr_off (c := (wr (wr c 67 F) 72 H)) (a := 61) (f := s) (i := 49) (k := 22) (by decide)).trans ((wr_off (c := (wr c 67 F)) (a := 72) (f := H) (i := 49) (k := 22) (by decide)).trans ((wr_off (c := c) (a := 67) (f := F) (i := 49) (k := 22) (by decide)).trans hM.1.2.1))) ?_
  refine sw_icmpN_ge z (gN P) (tgt := 204) (dX9_paths_1.at 7 rfl) (by decide) hv.1 hv.2.1 (fun q => ?_) (fun q => ?_)
  · replace hv := hv.2.2.1 q
    refine sw_iconst (dX9_paths_2.at 5 rfl) ?_
    refine sw_istore (lo' := [some (vr (49)), some (vi (((x : Nat) : Int))), some (vi (((y : Nat) : Int))), some (vi (((u : Nat) : Int))), some (vi (((t : Nat) : Int))), some (vi (0)), none, none]) (dX9_paths_2.at 6 rfl) (by decide) rfl ?_
    exact hv
  · replace hv := hv.2.2.2 q
    refine sw_iconst (dX9_paths_1.at 8 rfl) ?_
    refine sw_istore (lo' := [some (vr (49)), some (vi (((x : Nat) : Int))), some (vi (((y : Nat) : Int))), some (vi (((u : Nat) : Int))), some (vi (((t : Nat) : Int))), some (vi (((z : Nat) : Int))), some (vi (0)), none]) (dX9_paths_1.at 9 rfl) (by decide) rfl ?_
    exact hv

set_option maxHeartbeats 2000000 in
set_option maxRecDepth 20000 in
theorem g_X9_paths_80 {G : GG} {j nw nx gn : Nat} {g : Nat → Sh} {c : Nat → Nat → Int} {post : Option AV → AM → Prop} {x : Nat} {y : Nat} {u : Nat} {P : GD} {F : Nat → Int} {H : Nat → Int} {s : Nat → Int} {t : Nat} {z : Nat} (hM : ML c P) (hV : GV P)  (hv : (z < 2147483648) ∧ (gN P < 2147483648) ∧ (((gN P ≤ z) → SW G (j + 2) mX9_paths 106 [some (vr (49)), some (vi (((x : Nat) : Int))), some (vi (((y : Nat) : Int))), some (vi (((u : Nat) : Int))), some (vi (((t : Nat) : Int))), some (vi (0)), none, none] [] (S nw nx g, 78 + gn, (wr (wr (wr c 67 F) 72 H) 61 s)) B0 post) ∧ ((¬ (gN P ≤ z)) → (z < 60) ∧ (SW G (j + 2) mX9_paths 80 [some (vr (49)), some (vi (((x : Nat) : Int))), some (vi (((y : Nat) : Int))), some (vi (((u : Nat) : Int))), some (vi (((t : Nat) : Int))), some (vi (((z + 1 : Nat) : Int))), none, none] [] (S nw nx g, 78 + gn, (wr (wr (wr c 67 F) 72 (u1 H z 0)) 61 s)) B0 post)))) :
    SW G (j + 2) mX9_paths 80 [some (vr (49)), some (vi (((x : Nat) : Int))), some (vi (((y : Nat) : Int))), some (vi (((u : Nat) : Int))), some (vi (((t : Nat) : Int))), some (vi (((z : Nat) : Int))), none, none] [] (S nw nx g, 78 + gn, (wr (wr (wr c 67 F) 72 H) 61 s)) B0 post := by
  refine sw_iload (dX9_paths_0.at 41 rfl) rfl ?_
  refine sw_aload_n (dX9_paths_0.at 42 rfl) rfl rfl ?_
  refine sw_getIE (w := ((gN P : Nat) : Int)) (dX9_paths_0.at 43 rfl) fp_X9_196 (S_lt 49 (by decide)) (S_49 nw nx g) rfl ((wr_off (c := (wr (wr c 67 F) 72 H)) (a := 61) (f := s) (i := 49) (k := 22) (by decide)).trans ((wr_off (c := (wr c 67 F)) (a := 72) (f := H) (i := 49) (k := 22) (by decide)).trans ((wr_off (c := c) (a := 67) (f := F) (i := 49) (k := 22) (by decide)).trans hM.1.2.1))) ?_
  refine sw_icmpN_ge z (gN P) (tgt := 103) (dX9_paths_0.at 44 rfl) (by decide) hv.1 hv.2.1 (fun q => ?_) (fun q => ?_)
  · replace hv := hv.2.2.1 q
    refine sw_iconst (dX9_paths_1.at 2 rfl) ?_
    refine sw_istore (lo' := [some (vr (49)), some (vi (((x : Nat) : Int))), some (vi (((y : Nat) : Int))), some (vi (((u : Nat) : Int))), some (vi (((t : Nat) : Int))), some (vi (0)), none, none]) (dX9_paths_1.at 3 rfl) (by decide) rfl ?_
    exact hv
  · replace hv := hv.2.2.2 q
    refine sw_aload_n (dX9_paths_0.at 45 rfl) rfl rfl ?_
    refine sw_getR (dX9_paths_0.at 46 rfl) fp_X9_83 (S_lt 49 (by decide)) (S_49 nw nx g) rfl rfl ?_
    refine sw_iload (dX9_paths_0.at 47 rfl) rfl ?_
    refine sw_lconst (z := 0) (dX9_paths_0.at 48 rfl) (by decide) ?_
    refine sw_lastN z (dX9_paths_0.at 49 rfl) (S_lt 72 (by decide)) (S_72 nw nx g) (by decide) hv.1 ?_
    refine SW.cg (M' := (S nw nx g, 78 + gn, (wr (wr (wr c 67 F) 72 (u1 H z 0)) 61 s))) (congrArg (fun m => (S nw nx g, 78 + gn, m)) ((wr_up_in (wr (wr c 67 F) 72 H) 61 s 72 z 0 (by decide)).trans (congrArg (fun m => wr m 61 s) (wr_up (wr c 67 F) 72 H z 0)))) ?_
    replace hv := hv.2
    refine sw_iinc (lo' := [some (vr (49)), some (vi (((x : Nat) : Int))), some (vi (((y : Nat) : Int))), some (vi (((u : Nat) : Int))), some (vi (((t : Nat) : Int))), some (vi (((z + 1 : Nat) : Int))), none, none]) (dX9_paths_1.at 0 rfl) rfl (by decide) rfl ?_
    refine sw_goto (tgt := 80) (dX9_paths_1.at 1 rfl) (by decide) ?_
    exact hv

set_option maxHeartbeats 2000000 in
set_option maxRecDepth 20000 in
theorem g_X9_paths_207 {G : GG} {j nw nx gn : Nat} {g : Nat → Sh} {c : Nat → Nat → Int} {post : Option AV → AM → Prop} {x : Nat} {y : Nat} {u : Nat} {P : GD} {F : Nat → Int} {H : Nat → Int} {s : Nat → Int} {t : Nat} {z : Nat} (hM : ML c P) (hV : GV P)  (hv : (z < 2147483648) ∧ (gN P < 2147483648) ∧ (((gN P ≤ z) → SW G (j + 2) mX9_paths 71 [some (vr (49)), some (vi (((x : Nat) : Int))), some (vi (((y : Nat) : Int))), some (vi (((u : Nat) : Int))), some (vi (((t + 1 : Nat) : Int))), none, none, none] [] (S nw nx g, 78 + gn, (wr (wr (wr c 67 F) 72 H) 61 s)) B0 post) ∧ ((¬ (gN P ≤ z)) → (z < 60) ∧ ((z < 60) ∧ (SW G (j + 2) mX9_paths 207 [some (vr (49)), some (vi (((x : Nat) : Int))), some (vi (((y : Nat) : Int))), some (vi (((u : Nat) : Int))), some (vi (((t : Nat) : Int))), some (vi (((z + 1 : Nat) : Int))), none, none] [] (S nw nx g, 78 + gn, (wr (wr (wr c 67 (u1 F z (H z))) 72 H) 61 s)) B0 post))))) :
    SW G (j + 2) mX9_paths 207 [some (vr (49)), some (vi (((x : Nat) : Int))), some (vi (((y : Nat) : Int))), some (vi (((u : Nat) : Int))), some (vi (((t : Nat) : Int))), some (vi (((z : Nat) : Int))), none, none] [] (S nw nx g, 78 + gn, (wr (wr (wr c 67 F) 72 H) 61 s)) B0 post := by
  refine sw_iload (dX9_paths_2.at 7 rfl) rfl ?_
  refine sw_aload_n (dX9_paths_2.at 8 rfl) rfl rfl ?_
  refine sw_getIE (w := ((gN P : Nat) : Int)) (dX9_paths_2.at 9 rfl) fp_X9_196 (S_lt 49 (by decide)) (S_49 nw nx g) rfl ((wr_off (c := (wr (wr c 67 F) 72 H)) (a := 61) (f := s) (i := 49) (k := 22) (by decide)).trans ((wr_off (c := (wr c 67 F)) (a := 72) (f := H) (i := 49) (k := 22) (by decide)).trans ((wr_off (c := c) (a := 67) (f := F) (i := 49) (k := 22) (by decide)).trans hM.1.2.1))) ?_
  refine sw_icmpN_ge z (gN P) (tgt := 236) (dX9_paths_2.at 10 rfl) (by decide) hv.1 hv.2.1 (fun q => ?_) (fun q => ?_)
  · replace hv := hv.2.2.1 q
    refine sw_iinc (lo' := [some (vr (49)), some (vi (((x : Nat) : Int))), some (vi (((y : Nat) : Int))), some (vi (((u : Nat) : Int))), some (vi (((t + 1 : Nat) : Int))), some (vi (((z : Nat) : Int))), none, none]) (dX9_paths_2.at 21 rfl) rfl (by decide) rfl ?_
    refine sw_goto (tgt := 71) (dX9_paths_2.at 22 rfl) (by decide) ?_
    exact sw_mask (bs := [true, true, true, true, true, false, false, false]) hv
  · replace hv := hv.2.2.2 q
    refine sw_aload_n (dX9_paths_2.at 11 rfl) rfl rfl ?_
    refine sw_getR (dX9_paths_2.at 12 rfl) fp_X9_67 (S_lt 49 (by decide)) (S_49 nw nx g) rfl rfl ?_
    refine sw_iload (dX9_paths_2.at 13 rfl) rfl ?_
    refine sw_aload_n (dX9_paths_2.at 14 rfl) rfl rfl ?_
    refine sw_getR (dX9_paths_2.at 15 rfl) fp_X9_83 (S_lt 49 (by decide)) (S_49 nw nx g) rfl rfl ?_
    refine sw_iload (dX9_paths_2.at 16 rfl) rfl ?_
    refine sw_laldN z (w := H z) (dX9_paths_2.at 17 rfl) (S_lt 72 (by decide)) (S_72 nw nx g) (by decide) hv.1 rfl ?_
    replace hv := hv.2
    refine sw_lastN z (dX9_paths_2.at 18 rfl) (S_lt 67 (by decide)) (S_67 nw nx g) (by decide) hv.1 ?_
    refine SW.cg (M' := (S nw nx g, 78 + gn, (wr (wr (wr c 67 (u1 F z (H z))) 72 H) 61 s))) (congrArg (fun m => (S nw nx g, 78 + gn, m)) ((wr_up_in (wr (wr c 67 F) 72 H) 61 s 67 z (H z) (by decide)).trans (congrArg (fun m => wr m 61 s) ((wr_up_in (wr c 67 F) 72 H 67 z (H z) (by decide)).trans (congrArg (fun m => wr m 72 H) (wr_up c 67 F z (H z))))))) ?_
    replace hv := hv.2
    refine sw_iinc (lo' := [some (vr (49)), some (vi (((x : Nat) : Int))), some (vi (((y : Nat) : Int))), some (vi (((u : Nat) : Int))), some (vi (((t : Nat) : Int))), some (vi (((z + 1 : Nat) : Int))), none, none]) (dX9_paths_2.at 19 rfl) rfl (by decide) rfl ?_
    refine sw_goto (tgt := 207) (dX9_paths_2.at 20 rfl) (by decide) ?_
    exact hv

set_option maxHeartbeats 2000000 in
set_option maxRecDepth 20000 in
theorem g_X9_paths_71 {G : GG} {j nw nx gn : Nat} {g : Nat → Sh} {c : Nat → Nat → Int} {post : Option AV → AM → Prop} {x : Nat} {y : Nat} {u : Nat} {F : Nat → Int} {H : Nat → Int} {s : Nat → Int} {t : Nat}  (hv : (t < 2147483648) ∧ (u < 2147483648) ∧ (((u ≤ t) → (y < 60) ∧ (post (some (vl (F y))) (S nw nx g, 78 + gn, (wr (wr (wr c 67 F) 72 H) 61 s)))) ∧ ((¬ (u ≤ t)) → SW G (j + 2) mX9_paths 80 [some (vr (49)), some (vi (((x : Nat) : Int))), some (vi (((y : Nat) : Int))), some (vi (((u : Nat) : Int))), some (vi (((t : Nat) : Int))), some (vi (0)), none, none] [] (S nw nx g, 78 + gn, (wr (wr (wr c 67 F) 72 H) 61 s)) B0 post))) :
    SW G (j + 2) mX9_paths 71 [some (vr (49)), some (vi (((x : Nat) : Int))), some (vi (((y : Nat) : Int))), some (vi (((u : Nat) : Int))), some (vi (((t : Nat) : Int))), none, none, none] [] (S nw nx g, 78 + gn, (wr (wr (wr c 67 F) 72 H) 61 s)) B0 post := by
  refine sw_iload (dX9_paths_0.at 36 rfl) rfl ?_
  refine sw_iload_n (dX9_paths_0.at 37 rfl) rfl rfl ?_
  refine sw_icmpN_ge t u (tgt := 242) (dX9_paths_0.at 38 rfl) (by decide) hv.1 hv.2.1 (fun q => ?_) (fun q => ?_)
  · replace hv := hv.2.2.1 q
    refine sw_aload_n (dX9_paths_2.at 23 rfl) rfl rfl ?_
    refine sw_getR (dX9_paths_2.at 24 rfl) fp_X9_67 (S_lt 49 (by decide)) (S_49 nw nx g) rfl rfl ?_
    refine sw_iload_n (dX9_paths_2.at 25 rfl) rfl rfl ?_
    refine sw_laldN y (w := F y) (dX9_paths_2.at 26 rfl) (S_lt 67 (by decide)) (S_67 nw nx g) (by decide) hv.1 rfl ?_
    replace hv := hv.2
    exact sw_lret (dX9_paths_2.at 27 rfl) rfl (Nat.le_refl _) (Nat.le_refl _) hv
  · replace hv := hv.2.2.2 q
    refine sw_iconst (dX9_paths_0.at 39 rfl) ?_
    refine sw_istore (lo' := [some (vr (49)), some (vi (((x : Nat) : Int))), some (vi (((y : Nat) : Int))), some (vi (((u : Nat) : Int))), some (vi (((t : Nat) : Int))), some (vi (0)), none, none]) (dX9_paths_0.at 40 rfl) (by decide) rfl ?_
    exact hv

set_option maxHeartbeats 2000000 in
set_option maxRecDepth 20000 in
theorem g_X9_paths_35 {G : GG} {j nw nx gn : Nat} {g : Nat → Sh} {c : Nat → Nat → Int} {post : Option AV → AM → Prop} {x : Nat} {y : Nat} {u : Nat} {P : GD} {F : Nat → Int} {H : Nat → Int} {s : Nat → Int} {t : Nat} (hM : ML c P) (hV : GV P)  (hv : (t < 2147483648) ∧ (gN P < 2147483648) ∧ (((gN P ≤ t) → SW G (j + 2) mX9_paths 71 [some (vr (49)), some (vi (((x : Nat) : Int))), some (vi (((y : Nat) : Int))), some (vi (((u : Nat) : Int))), some (vi (0)), none, none, none] [] (S nw nx g, 78 + gn, (wr (wr (wr c 67 F) 72 H) 61 s)) B0 post) ∧ ((¬ (gN P ≤ t)) → (t < 2147483648) ∧ (x < 2147483648) ∧ (((t ≠ x) → (t < 60) ∧ (SW G (j + 2) mX9_paths 35 [some (vr (49)), some (vi (((x : Nat) : Int))), some (vi (((y : Nat) : Int))), some (vi (((u : Nat) : Int))), some (vi (((t + 1 : Nat) : Int))), none, none, none] [] (S nw nx g, 78 + gn, (wr (wr (wr c 67 (u1 F t 0)) 72 H) 61 s)) B0 post)) ∧ ((t = x) → (t < 60) ∧ (SW G (j + 2) mX9_paths 35 [some (vr (49)), some (vi (((x : Nat) : Int))), some (vi (((y : Nat) : Int))), some (vi (((u : Nat) : Int))), some (vi (((t + 1 : Nat) : Int))), none, none, none] [] (S nw nx g, 78 + gn, (wr (wr (wr c 67 (u1 F t 1)) 72 H) 61 s)) B0 post)))))) :
    SW G (j + 2) mX9_paths 35 [some (vr (49)), some (vi (((x : Nat) : Int))), some (vi (((y : Nat) : Int))), some (vi (((u : Nat) : Int))), some (vi (((t : Nat) : Int))), none, none, none] [] (S nw nx g, 78 + gn, (wr (wr (wr c 67 F) 72 H) 61 s)) B0 post := by
  refine sw_iload (dX9_paths_0.at 18 rfl) rfl ?_
  refine sw_aload_n (dX9_paths_0.at 19 rfl) rfl rfl ?_
  refine sw_getIE (w := ((gN P : Nat) : Int)) (dX9_paths_0.at 20 rfl) fp_X9_196 (S_lt 49 (by decide)) (S_49 nw nx g) rfl ((wr_off (c := (wr (wr c 67 F) 72 H)) (a := 61) (f := s) (i := 49) (k := 22) (by decide)).trans ((wr_off (c := (wr c 67 F)) (a := 72) (f := H) (i := 49) (k := 22) (by decide)).trans ((wr_off (c := c) (a := 67) (f := F) (i := 49) (k := 22) (by decide)).trans hM.1.2.1))) ?_
  refine sw_icmpN_ge t (gN P) (tgt := 68) (dX9_paths_0.at 21 rfl) (by decide) hv.1 hv.2.1 (fun q => ?_) (fun q => ?_)
  · replace hv := hv.2.2.1 q
    refine sw_iconst (dX9_paths_0.at 34 rfl) ?_
    refine sw_istore (lo' := [some (vr (49)), some (vi (((x : Nat) : Int))), some (vi (((y : Nat) : Int))), some (vi (((u : Nat) : Int))), some (vi (0)), none, none, none]) (dX9_paths_0.at 35 rfl) (by decide) rfl ?_
    exact hv
  · replace hv := hv.2.2.2 q
    refine sw_aload_n (dX9_paths_0.at 22 rfl) rfl rfl ?_
    refine sw_getR (dX9_paths_0.at 23 rfl) fp_X9_67 (S_lt 49 (by decide)) (S_49 nw nx g) rfl rfl ?_
    refine sw_iload (dX9_paths_0.at 24 rfl) rfl ?_
    refine sw_iload (dX9_paths_0.at 25 rfl) rfl ?_
    refine sw_iload_n (dX9_paths_0.at 26 rfl) rfl rfl ?_
    refine sw_icmpN_ne t x (tgt := 60) (dX9_paths_0.at 27 rfl) (by decide) hv.1 hv.2.1 (fun q => ?_) (fun q => ?_)
    · replace hv := hv.2.2.1 q
      refine sw_lconst (z := 0) (dX9_paths_0.at 30 rfl) (by decide) ?_
      refine sw_lastN t (dX9_paths_0.at 31 rfl) (S_lt 67 (by decide)) (S_67 nw nx g) (by decide) hv.1 ?_
      refine SW.cg (M' := (S nw nx g, 78 + gn, (wr (wr (wr c 67 (u1 F t 0)) 72 H) 61 s))) (congrArg (fun m => (S nw nx g, 78 + gn, m)) ((wr_up_in (wr (wr c 67 F) 72 H) 61 s 67 t 0 (by decide)).trans (congrArg (fun m => wr m 61 s) ((wr_up_in (wr c 67 F) 72 H 67 t 0 (by decide)).trans (congrArg (fun m => wr m 72 H) (wr_up c 67 F t 0)))))) ?_
      replace hv := hv.2
      refine sw_iinc (lo' := [some (vr (49)), some (vi (((x : Nat) : Int))), some (vi (((y : Nat) : Int))), some (vi (((u : Nat) : Int))), some (vi (((t + 1 : Nat) : Int))), none, none, none]) (dX9_paths_0.at 32 rfl) rfl (by decide) rfl ?_
      refine sw_goto (tgt := 35) (dX9_paths_0.at 33 rfl) (by decide) ?_
      exact hv
    · replace hv := hv.2.2.2 q
      refine sw_lconst (z := 1) (dX9_paths_0.at 28 rfl) (by decide) ?_
      refine sw_goto (tgt := 61) (dX9_paths_0.at 29 rfl) (by decide) ?_
      refine sw_lastN t (dX9_paths_0.at 31 rfl) (S_lt 67 (by decide)) (S_67 nw nx g) (by decide) hv.1 ?_
      refine SW.cg (M' := (S nw nx g, 78 + gn, (wr (wr (wr c 67 (u1 F t 1)) 72 H) 61 s))) (congrArg (fun m => (S nw nx g, 78 + gn, m)) ((wr_up_in (wr (wr c 67 F) 72 H) 61 s 67 t 1 (by decide)).trans (congrArg (fun m => wr m 61 s) ((wr_up_in (wr c 67 F) 72 H 67 t 1 (by decide)).trans (congrArg (fun m => wr m 72 H) (wr_up c 67 F t 1)))))) ?_
      replace hv := hv.2
      refine sw_iinc (lo' := [some (vr (49)), some (vi (((x : Nat) : Int))), some (vi (((y : Nat) : Int))), some (vi (((u : Nat) : Int))), some (vi (((t + 1 : Nat) : Int))), none, none, none]) (dX9_paths_0.at 32 rfl) rfl (by decide) rfl ?_
      refine sw_goto (tgt := 35) (dX9_paths_0.at 33 rfl) (by decide) ?_
      exact hv

theorem sMir_cong2 {P : GD} (hV : GV P) {x : Nat} (hx : x < gN P) {f f2 : Nat → Int} (h : ∀ q, q < gN P → f q = f2 q) : sMir P f x (gM P) = sMir P f2 x (gM P) := by
  rw [sMir_sum, sMir_sum]
  refine sumN_cong _ (fun i hi => ?_)
  split
  · exact h _ (hV.2.2.2.2.1 x _ hx (hV.2.2.2.2.2 i hi))
  · rfl
set_option maxHeartbeats 4000000 in
theorem lx_118 {G : GG} {j nw nx gn : Nat} {g : Nat → Sh} {c : Nat → Nat → Int} {post : Option AV → AM → Prop} {P : GD} {x y u t z : Nat} {F : Nat → Int} (hM : ML c P) (hV : GV P) (hC : GC P) (hz : z < gN P) (hFb : ∀ q, q < gN P → 0 ≤ F q ∧ F q < 9223372036854775808) (K : ∀ H s : Nat → Int, (∀ q, q < gN P → H q = sumN (fun a => sumN (tm P F q a) (gM P)) (z + 1)) → SW G (j + 2) mX9_paths 106 [some (vr (49)), some (vi (((x : Nat) : Int))), some (vi (((y : Nat) : Int))), some (vi (((u : Nat) : Int))), some (vi (((t : Nat) : Int))), some (vi (((z + 1 : Nat) : Int))), none, none] [] (S nw nx g, 78 + gn, (wr (wr (wr c 67 F) 72 H) 61 s)) B0 post) : ∀ (k i : Nat) (H s : Nat → Int), i + k = gM P → (∀ q, q < gN P → H q = sumN (fun a => sumN (tm P F q a) (gM P)) z + sumN (tm P F q z) i) → SW G (j + 2) mX9_paths 118 [some (vr (49)), some (vi (((x : Nat) : Int))), some (vi (((y : Nat) : Int))), some (vi (((u : Nat) : Int))), some (vi (((t : Nat) : Int))), some (vi (((z : Nat) : Int))), some (vi (((i : Nat) : Int))), none] [] (S nw nx g, 78 + gn, (wr (wr (wr c 67 F) 72 H) 61 s)) B0 post := by
  have h60 := GV_N hV
  have hm60 := hV.1.2.2.1
  have f9 := hFb z hz
  have l1 := (hV.2.2.1 z hz).1
  intro k
  induction k with
  | zero =>
    intro i H s hi hH
    have e : i = gM P := by omega
    subst e
    have K2 := K H s (fun q hq => by rw [hH q hq, sumN])
    refine g_X9_paths_118 hM hV hC ?_
    refine ⟨?_, ?_, ⟨fun q => ?_, fun q => ⟨?_, ⟨?_, ⟨fun q => ?_, fun q => ⟨?_, ⟨?_, ?_, fun s_1 h_1 => ⟨?_, ⟨?_, ⟨?_, ⟨?_, ?_, ⟨fun q => ⟨?_, ?_⟩, fun q => ⟨?_, ⟨?_, ?_⟩⟩⟩⟩⟩⟩⟩⟩⟩⟩⟩⟩⟩⟩
    all_goals first | omega | exact K2 | (exfalso; omega)
  | succ k ih =>
    intro i H s hi hH
    have t1 := hV.2.2.2.2.2 i (by omega)
    have y1 := hV.2.2.2.2.1 z _ hz t1
    have l2 := (hV.2.2.1 _ y1).1
    refine g_X9_paths_118 hM hV hC ?_
    by_cases h0 : F z ≤ 0
    · have z0 : ∀ q n, sumN (tm P F q z) n = 0 := fun q n => by
        rw [sumN_cong (f2 := fun _ => 0) n (fun i _ => by rw [tm]; split; omega; rfl)]; exact sumN_0 n
      have K2 := K H s (fun q hq => by rw [hH q hq, sumN, z0, z0])
      refine ⟨?_, ?_, ⟨fun q => ?_, fun q => ⟨?_, ⟨?_, ⟨fun q => ?_, fun q => ⟨?_, ⟨?_, ?_, fun s_1 h_1 => ⟨?_, ⟨?_, ⟨?_, ⟨?_, ?_, ⟨fun q => ⟨?_, ?_⟩, fun q => ⟨?_, ⟨?_, ?_⟩⟩⟩⟩⟩⟩⟩⟩⟩⟩⟩⟩⟩⟩
      all_goals first | omega | assumption | exact K2 | (exfalso; omega)
    · have nx9 := fun (v : Int) (s2 : Nat → Int) (hv : v = H (gX P z (gT P i)) + (if gL P z < gL P (gX P z (gT P i)) then F z else 0)) => ih (i + 1) (u1 H (gX P z (gT P i)) v) s2 (by omega) (fun q hq => by
        by_cases e : q = gX P z (gT P i)
        · rw [e, u1_eq, hv, hH _ y1, sumN, tm]
          by_cases hl : gL P z < gL P (gX P z (gT P i))
          · rw [if_pos hl, if_pos ⟨rfl, hl⟩]; omega
          · rw [if_neg hl, if_neg (fun q => hl q.2)]; omega
        · rw [u1_ne e, hH q hq, sumN, tm, if_neg (fun h => e h.1.symm)]; omega)
      refine ⟨?_, ?_, ⟨fun q => ?_, fun q => ⟨?_, ⟨?_, ⟨fun q => ?_, fun q => ⟨?_, ⟨?_, ?_, fun s_1 h_1 => ⟨?_, ⟨?_, ⟨?_, ⟨?_, ?_, ⟨fun q => ⟨?_, ?_⟩, fun q => ⟨?_, ⟨?_, ?_⟩⟩⟩⟩⟩⟩⟩⟩⟩⟩⟩⟩⟩⟩
      all_goals first | omega | assumption | (exfalso; omega) | exact nx9 _ _ (by rw [if_pos (by omega)]) | exact nx9 _ _ (by rw [if_neg (by omega)])
set_option maxHeartbeats 4000000 in
theorem lx_106 {G : GG} {j nw nx gn : Nat} {g : Nat → Sh} {c : Nat → Nat → Int} {post : Option AV → AM → Prop} {P : GD} {x y u t : Nat} {F : Nat → Int} (hM : ML c P) (hV : GV P) (hC : GC P) (hFb : ∀ q, q < gN P → 0 ≤ F q ∧ F q < 9223372036854775808) (K : ∀ H s : Nat → Int, (∀ q, q < gN P → H q = sumN (fun a => sumN (tm P F q a) (gM P)) (gN P)) → SW G (j + 2) mX9_paths 207 [some (vr (49)), some (vi (((x : Nat) : Int))), some (vi (((y : Nat) : Int))), some (vi (((u : Nat) : Int))), some (vi (((t : Nat) : Int))), some (vi (0)), none, none] [] (S nw nx g, 78 + gn, (wr (wr (wr c 67 F) 72 H) 61 s)) B0 post) : ∀ (k z : Nat) (H s : Nat → Int), z + k = gN P → (∀ q, q < gN P → H q = sumN (fun a => sumN (tm P F q a) (gM P)) z) → SW G (j + 2) mX9_paths 106 [some (vr (49)), some (vi (((x : Nat) : Int))), some (vi (((y : Nat) : Int))), some (vi (((u : Nat) : Int))), some (vi (((t : Nat) : Int))), some (vi (((z : Nat) : Int))), none, none] [] (S nw nx g, 78 + gn, (wr (wr (wr c 67 F) 72 H) 61 s)) B0 post := by
  have h60 := GV_N hV
  intro k
  induction k with
  | zero =>
    intro z H s hz hH
    have e : z = gN P := by omega
    subst e
    have K2 := K H s hH
    refine g_X9_paths_106 hM hV ?_
    refine ⟨?_, ?_, ⟨fun q => ?_, fun q => ?_⟩⟩
    all_goals first | omega | exact K2 | (exfalso; omega)
  | succ k ih =>
    intro z H s hz hH
    have n9 := lx_118 (G := G) (j := j) (nw := nw) (nx := nx) (gn := gn) (g := g) (post := post) (x := x) (y := y) (u := u) (t := t) hM hV hC (show z < gN P by omega) hFb (fun H s h => ih (z + 1) H s (by omega) h) (gM P) 0 H s (by omega) (fun q hq => by rw [hH q hq]; exact (Int.add_zero _).symm)
    refine g_X9_paths_106 hM hV ?_
    refine ⟨?_, ?_, ⟨fun q => ?_, fun q => ?_⟩⟩
    all_goals first | omega | (exfalso; omega) | exact n9
set_option maxHeartbeats 4000000 in
theorem lx_80 {G : GG} {j nw nx gn : Nat} {g : Nat → Sh} {c : Nat → Nat → Int} {post : Option AV → AM → Prop} {P : GD} {x y u t : Nat} {F s : Nat → Int} (hM : ML c P) (hV : GV P) (K : ∀ H : Nat → Int, (∀ q, q < gN P → H q = 0) → SW G (j + 2) mX9_paths 106 [some (vr (49)), some (vi (((x : Nat) : Int))), some (vi (((y : Nat) : Int))), some (vi (((u : Nat) : Int))), some (vi (((t : Nat) : Int))), some (vi (0)), none, none] [] (S nw nx g, 78 + gn, (wr (wr (wr c 67 F) 72 H) 61 s)) B0 post) : ∀ (k z : Nat) (H : Nat → Int), z + k = gN P → (∀ q, q < z → H q = 0) → SW G (j + 2) mX9_paths 80 [some (vr (49)), some (vi (((x : Nat) : Int))), some (vi (((y : Nat) : Int))), some (vi (((u : Nat) : Int))), some (vi (((t : Nat) : Int))), some (vi (((z : Nat) : Int))), none, none] [] (S nw nx g, 78 + gn, (wr (wr (wr c 67 F) 72 H) 61 s)) B0 post := by
  have h60 := GV_N hV
  intro k
  induction k with
  | zero =>
    intro z H hz hH
    have K2 := K H (fun q hq => hH q (by omega))
    refine g_X9_paths_80 hM hV ?_
    refine ⟨?_, ?_, ⟨fun q => ?_, fun q => ⟨?_, ?_⟩⟩⟩
    all_goals first | omega | exact K2 | (exfalso; omega)
  | succ k ih =>
    intro z H hz hH
    have n9 := ih (z + 1) (u1 H z 0) (by omega) (fun q hq => by
      by_cases e : q = z
      · rw [e, u1_eq]
      · rw [u1_ne e]; exact hH q (by omega))
    refine g_X9_paths_80 hM hV ?_
    refine ⟨?_, ?_, ⟨fun q => ?_, fun q => ⟨?_, ?_⟩⟩⟩
    all_goals first | omega | (exfalso; omega) | exact n9
set_option maxHeartbeats 4000000 in
theorem lx_207 {G : GG} {j nw nx gn : Nat} {g : Nat → Sh} {c : Nat → Nat → Int} {post : Option AV → AM → Prop} {P : GD} {x y u t : Nat} {H s : Nat → Int} (hM : ML c P) (hV : GV P) (K : ∀ F : Nat → Int, (∀ q, q < gN P → F q = H q) → SW G (j + 2) mX9_paths 71 [some (vr (49)), some (vi (((x : Nat) : Int))), some (vi (((y : Nat) : Int))), some (vi (((u : Nat) : Int))), some (vi (((t + 1 : Nat) : Int))), none, none, none] [] (S nw nx g, 78 + gn, (wr (wr (wr c 67 F) 72 H) 61 s)) B0 post) : ∀ (k z : Nat) (F : Nat → Int), z + k = gN P → (∀ q, q < z → F q = H q) → SW G (j + 2) mX9_paths 207 [some (vr (49)), some (vi (((x : Nat) : Int))), some (vi (((y : Nat) : Int))), some (vi (((u : Nat) : Int))), some (vi (((t : Nat) : Int))), some (vi (((z : Nat) : Int))), none, none] [] (S nw nx g, 78 + gn, (wr (wr (wr c 67 F) 72 H) 61 s)) B0 post := by
  have h60 := GV_N hV
  intro k
  induction k with
  | zero =>
    intro z F hz hF
    have K2 := K F (fun q hq => hF q (by omega))
    refine g_X9_paths_207 hM hV ?_
    refine ⟨?_, ?_, ⟨fun q => ?_, fun q => ⟨?_, ⟨?_, ?_⟩⟩⟩⟩
    all_goals first | omega | exact K2 | (exfalso; omega)
  | succ k ih =>
    intro z F hz hF
    have n9 := ih (z + 1) (u1 F z (H z)) (by omega) (fun q hq => by
      by_cases e : q = z
      · rw [e, u1_eq]
      · rw [u1_ne e]; exact hF q (by omega))
    refine g_X9_paths_207 hM hV ?_
    refine ⟨?_, ?_, ⟨fun q => ?_, fun q => ⟨?_, ⟨?_, ?_⟩⟩⟩⟩
    all_goals first | omega | (exfalso; omega) | exact n9
set_option maxHeartbeats 4000000 in
theorem lx_71 {G : GG} {j nw nx gn : Nat} {g : Nat → Sh} {c : Nat → Nat → Int} {post : Option AV → AM → Prop} {P : GD} {x y u : Nat} (hM : ML c P) (hV : GV P) (hC : GC P) (hm : hMi P) (hy : y < gN P) (hu : u ≤ 30) (K : ∀ F H s : Nat → Int, F y = gst P x u y → post (some (vl (F y))) (S nw nx g, 78 + gn, (wr (wr (wr c 67 F) 72 H) 61 s))) : ∀ (k t : Nat) (F H s : Nat → Int), t + k = u → (∀ q, q < gN P → F q = gst P x t q) → SW G (j + 2) mX9_paths 71 [some (vr (49)), some (vi (((x : Nat) : Int))), some (vi (((y : Nat) : Int))), some (vi (((u : Nat) : Int))), some (vi (((t : Nat) : Int))), none, none, none] [] (S nw nx g, 78 + gn, (wr (wr (wr c 67 F) 72 H) 61 s)) B0 post := by
  have h60 := GV_N hV
  intro k
  induction k with
  | zero =>
    intro t F H s ht hF
    have e : t = u := by omega
    subst e
    have K2 := K F H s (hF y hy)
    refine g_X9_paths_71 ?_
    refine ⟨?_, ?_, ⟨fun q => ⟨?_, ?_⟩, fun q => ?_⟩⟩
    all_goals first | omega | exact K2 | (exfalso; omega)
  | succ k ih =>
    intro t F H s ht hF
    have n9 := lx_80 (G := G) (j := j) (nw := nw) (nx := nx) (gn := gn) (g := g) (post := post) (x := x) (y := y) (u := u) (t := t) (F := F) (s := s) hM hV (fun H h0 => lx_106 hM hV hC (fun q hq => by rw [hF q hq]; exact gst_rng hV hm hq) (fun H2 s2 h2 => lx_207 hM hV (fun F2 h3 => ih (t + 1) F2 H2 s2 (by omega) (fun q hq => by
      rw [h3 q hq, h2 q hq, tm_all hV hm hq, gst]
      exact sMir_cong2 hV hq hF)) (gN P) 0 F (by omega) (fun q hq => by omega)) (gN P) 0 H s (by omega) (fun q hq => by rw [h0 q hq]; rfl)) (gN P) 0 H (by omega) (fun q hq => by omega)
    refine g_X9_paths_71 ?_
    refine ⟨?_, ?_, ⟨fun q => ⟨?_, ?_⟩, fun q => ?_⟩⟩
    all_goals first | omega | (exfalso; omega) | exact n9
set_option maxHeartbeats 4000000 in
theorem lx_35 {G : GG} {j nw nx gn : Nat} {g : Nat → Sh} {c : Nat → Nat → Int} {post : Option AV → AM → Prop} {P : GD} {x y u : Nat} {H s : Nat → Int} (hM : ML c P) (hV : GV P) (hx : x < gN P) : ∀ (k t : Nat) (F : Nat → Int), t + k = gN P → SW G (j + 2) mX9_paths 71 [some (vr (49)), some (vi (((x : Nat) : Int))), some (vi (((y : Nat) : Int))), some (vi (((u : Nat) : Int))), some (vi (0)), none, none, none] [] (S nw nx g, 78 + gn, (wr (wr (wr c 67 (iI x k t F)) 72 H) 61 s)) B0 post → SW G (j + 2) mX9_paths 35 [some (vr (49)), some (vi (((x : Nat) : Int))), some (vi (((y : Nat) : Int))), some (vi (((u : Nat) : Int))), some (vi (((t : Nat) : Int))), none, none, none] [] (S nw nx g, 78 + gn, (wr (wr (wr c 67 F) 72 H) 61 s)) B0 post := by
  have h60 := GV_N hV
  intro k
  induction k with
  | zero =>
    intro t F ht K
    rw [iI] at K
    refine g_X9_paths_35 hM hV ?_
    refine ⟨?_, ?_, ⟨fun q => ?_, fun q => ⟨?_, ?_, ⟨fun q => ⟨?_, ?_⟩, fun q => ⟨?_, ?_⟩⟩⟩⟩⟩
    all_goals first | omega | exact K | (exfalso; omega)
  | succ k ih =>
    intro t F ht K
    rw [iI] at K
    refine g_X9_paths_35 hM hV ?_
    refine ⟨?_, ?_, ⟨fun q => ?_, fun q => ⟨?_, ?_, ⟨fun q => ⟨?_, ?_⟩, fun q => ⟨?_, ?_⟩⟩⟩⟩⟩
    all_goals first | omega | (exfalso; omega) | (rw [if_pos (by assumption)] at K; exact ih _ _ (by omega) K) | (rw [if_neg (by assumption)] at K; exact ih _ _ (by omega) K)

set_option maxHeartbeats 2000000 in
set_option maxRecDepth 20000 in
theorem g_X9_paths_0n {G : GG} {j nw nx gn : Nat} {g : Nat → Sh} {c : Nat → Nat → Int} {post : Option AV → AM → Prop} {x : Nat} {y : Nat} {u : Nat} {P : GD} (hM : ML c P) (hV : GV P) (hC : GC P) (hm : hMi P) (hB : hBr P)  (hv : (-2147483648 ≤ ((x : Nat) : Int) ∧ ((x : Nat) : Int) < 2147483648) ∧ ((((decide (0 ≤ ((x : Nat) : Int) ∧ ((x : Nat) : Int) < (gN P : Int))) = false) → post (some (vl ((-2)))) (S nw nx g, 78 + gn, c)) ∧ (((decide (0 ≤ ((x : Nat) : Int) ∧ ((x : Nat) : Int) < (gN P : Int))) = true) → (-2147483648 ≤ ((y : Nat) : Int) ∧ ((y : Nat) : Int) < 2147483648) ∧ ((((decide (0 ≤ ((y : Nat) : Int) ∧ ((y : Nat) : Int) < (gN P : Int))) = false) → post (some (vl ((-2)))) (S nw nx g, 78 + gn, c)) ∧ (((decide (0 ≤ ((y : Nat) : Int) ∧ ((y : Nat) : Int) < (gN P : Int))) = true) → (u < 2147483648) ∧ ((-9223372036854775808 ≤ (((u : Nat) : Int) : Int) ∧ (((u : Nat) : Int) : Int) < 9223372036854775808) ∧ (-9223372036854775808 ≤ (0 : Int) ∧ (0 : Int) < 9223372036854775808) ∧ (-9223372036854775808 ≤ (30 : Int) ∧ (30 : Int) < 9223372036854775808) ∧ ((((decide (0 ≤ ((u : Nat) : Int) ∧ ((u : Nat) : Int) ≤ 30)) = true) → SW G (j + 2) mX9_paths 35 [some (vr (49)), some (vi (((x : Nat) : Int))), some (vi (((y : Nat) : Int))), some (vi (((u : Nat) : Int))), some (vi (0)), none, none, none] [] (S nw nx g, 78 + gn, c) B0 post) ∧ (((decide (0 ≤ ((u : Nat) : Int) ∧ ((u : Nat) : Int) ≤ 30)) = false) → post (some (vl ((-2)))) (S nw nx g, 78 + gn, c))))))))) :
    SW G (j + 2) mX9_paths 0 [some (vr (49)), some (vi (((x : Nat) : Int))), some (vi (((y : Nat) : Int))), some (vi (((u : Nat) : Int))), none, none, none, none] [] (S nw nx g, 78 + gn, c) B0 post := by
  refine sw_aload_n (dX9_paths_0.at 0 rfl) rfl rfl ?_
  refine sw_iload_n (dX9_paths_0.at 1 rfl) rfl rfl ?_
  refine sw_callV (B' := B0) (As := [vi (((x : Nat) : Int))]) (mc := 0) (ms := 0) (dX9_paths_0.at 2 rfl) lk_X9_251 (S_lt 49 (by decide)) (S_49 nw nx g) rfl rfl (Nat.le_of_ble_eq_true rfl) rfl (Nat.le_refl _) (Nat.le_refl _) ?_
  refine c_X9_isElement (x := ((x : Nat) : Int)) (j := j + 0) hM hV hv.1 ?_
  replace hv := hv.2
  refine sw_if_eq (tgt := 28) (dX9_paths_0.at 3 rfl) (by decide) (bz_rng _) (fun q => ?_) (fun q => ?_)
  · replace hv := hv.1 (bz_0 q)
    refine sw_ldc2 (z := (-2)) (dX9_paths_0.at 14 rfl) kc_X9_259 (by decide) ?_
    exact sw_lret (dX9_paths_0.at 15 rfl) rfl (Nat.le_refl _) (Nat.le_refl _) hv
  · replace hv := hv.2 (bz_n0 q)
    refine sw_aload_n (dX9_paths_0.at 4 rfl) rfl rfl ?_
    refine sw_iload_n (dX9_paths_0.at 5 rfl) rfl rfl ?_
    refine sw_callV (B' := B0) (As := [vi (((y : Nat) : Int))]) (mc := 0) (ms := 0) (dX9_paths_0.at 6 rfl) lk_X9_251 (S_lt 49 (by decide)) (S_49 nw nx g) rfl rfl (Nat.le_of_ble_eq_true rfl) rfl (Nat.le_refl _) (Nat.le_refl _) ?_
    refine c_X9_isElement (x := ((y : Nat) : Int)) (j := j + 0) hM hV hv.1 ?_
    replace hv := hv.2
    refine sw_if_eq (tgt := 28) (dX9_paths_0.at 7 rfl) (by decide) (bz_rng _) (fun q => ?_) (fun q => ?_)
    · replace hv := hv.1 (bz_0 q)
      refine sw_ldc2 (z := (-2)) (dX9_paths_0.at 14 rfl) kc_X9_259 (by decide) ?_
      exact sw_lret (dX9_paths_0.at 15 rfl) rfl (Nat.le_refl _) (Nat.le_refl _) hv
    · replace hv := hv.2 (bz_n0 q)
      refine sw_iload_n (dX9_paths_0.at 8 rfl) rfl rfl ?_
      refine sw_i2l (dX9_paths_0.at 9 rfl) (nrng hv.1) ?_
      replace hv := hv.2
      refine sw_lconst (z := 0) (dX9_paths_0.at 10 rfl) (by decide) ?_
      refine sw_ldc2 (z := 30) (dX9_paths_0.at 11 rfl) kc_X9_384 (by decide) ?_
      refine sw_callS (post' := post) (B' := B0) (As := [vl (((u : Nat) : Int)), vl (0), vl (30)]) (mc := 0) (ms := 0) (dX9_paths_0.at 12 rfl) lk_X9_104 rfl rfl (Nat.le_of_ble_eq_true rfl) rfl (Nat.le_refl _) (Nat.le_refl _) ?_
      refine c_X9_in (u := ((u : Nat) : Int)) (lo := 0) (hi := 30) (j := j + 1) hv.1 hv.2.1 hv.2.2.1 ?_
      replace hv := hv.2.2.2
      refine sw_if_ne (tgt := 32) (dX9_paths_0.at 13 rfl) (by decide) (bz_rng _) (fun q => ?_) (fun q => ?_)
      · replace hv := hv.1 (bz_1 q)
        refine sw_iconst (dX9_paths_0.at 16 rfl) ?_
        refine sw_istore (lo' := [some (vr (49)), some (vi (((x : Nat) : Int))), some (vi (((y : Nat) : Int))), some (vi (((u : Nat) : Int))), some (vi (0)), none, none, none]) (dX9_paths_0.at 17 rfl) (by decide) rfl ?_
        exact hv
      · replace hv := hv.2 (bz_n1 q)
        refine sw_ldc2 (z := (-2)) (dX9_paths_0.at 14 rfl) kc_X9_259 (by decide) ?_
        exact sw_lret (dX9_paths_0.at 15 rfl) rfl (Nat.le_refl _) (Nat.le_refl _) hv

set_option maxHeartbeats 2000000 in
set_option maxRecDepth 20000 in
theorem g_X9_paths_0 {G : GG} {j nw nx gn : Nat} {g : Nat → Sh} {c : Nat → Nat → Int} {post : Option AV → AM → Prop} {x : Int} {y : Int} {u : Int} {P : GD} (hM : ML c P) (hV : GV P) (hC : GC P) (hm : hMi P) (hB : hBr P)  (hv : (-2147483648 ≤ x ∧ x < 2147483648) ∧ ((((decide (0 ≤ x ∧ x < (gN P : Int))) = false) → post (some (vl ((-2)))) (S nw nx g, 78 + gn, c)) ∧ (((decide (0 ≤ x ∧ x < (gN P : Int))) = true) → (-2147483648 ≤ y ∧ y < 2147483648) ∧ ((((decide (0 ≤ y ∧ y < (gN P : Int))) = false) → post (some (vl ((-2)))) (S nw nx g, 78 + gn, c)) ∧ (((decide (0 ≤ y ∧ y < (gN P : Int))) = true) → (-2147483648 ≤ u ∧ u < 2147483648) ∧ ((-9223372036854775808 ≤ (u : Int) ∧ (u : Int) < 9223372036854775808) ∧ (-9223372036854775808 ≤ (0 : Int) ∧ (0 : Int) < 9223372036854775808) ∧ (-9223372036854775808 ≤ (30 : Int) ∧ (30 : Int) < 9223372036854775808) ∧ ((((decide (0 ≤ u ∧ u ≤ 30)) = true) → SW G (j + 2) mX9_paths 35 [some (vr (49)), some (vi (x)), some (vi (y)), some (vi (u)), some (vi (0)), none, none, none] [] (S nw nx g, 78 + gn, c) B0 post) ∧ (((decide (0 ≤ u ∧ u ≤ 30)) = false) → post (some (vl ((-2)))) (S nw nx g, 78 + gn, c))))))))) :
    SW G (j + 2) mX9_paths 0 [some (vr (49)), some (vi (x)), some (vi (y)), some (vi (u)), none, none, none, none] [] (S nw nx g, 78 + gn, c) B0 post := by
  refine sw_aload_n (dX9_paths_0.at 0 rfl) rfl rfl ?_
  refine sw_iload_n (dX9_paths_0.at 1 rfl) rfl rfl ?_
  refine sw_callV (B' := B0) (As := [vi (x)]) (mc := 0) (ms := 0) (dX9_paths_0.at 2 rfl) lk_X9_251 (S_lt 49 (by decide)) (S_49 nw nx g) rfl rfl (Nat.le_of_ble_eq_true rfl) rfl (Nat.le_refl _) (Nat.le_refl _) ?_
  refine c_X9_isElement (x := x) (j := j + 0) hM hV hv.1 ?_
  replace hv := hv.2
  refine sw_if_eq (tgt := 28) (dX9_paths_0.at 3 rfl) (by decide) (bz_rng _) (fun q => ?_) (fun q => ?_)
  · replace hv := hv.1 (bz_0 q)
    refine sw_ldc2 (z := (-2)) (dX9_paths_0.at 14 rfl) kc_X9_259 (by decide) ?_
    exact sw_lret (dX9_paths_0.at 15 rfl) rfl (Nat.le_refl _) (Nat.le_refl _) hv
  · replace hv := hv.2 (bz_n0 q)
    refine sw_aload_n (dX9_paths_0.at 4 rfl) rfl rfl ?_
    refine sw_iload_n (dX9_paths_0.at 5 rfl) rfl rfl ?_
    refine sw_callV (B' := B0) (As := [vi (y)]) (mc := 0) (ms := 0) (dX9_paths_0.at 6 rfl) lk_X9_251 (S_lt 49 (by decide)) (S_49 nw nx g) rfl rfl (Nat.le_of_ble_eq_true rfl) rfl (Nat.le_refl _) (Nat.le_refl _) ?_
    refine c_X9_isElement (x := y) (j := j + 0) hM hV hv.1 ?_
    replace hv := hv.2
    refine sw_if_eq (tgt := 28) (dX9_paths_0.at 7 rfl) (by decide) (bz_rng _) (fun q => ?_) (fun q => ?_)
    · replace hv := hv.1 (bz_0 q)
      refine sw_ldc2 (z := (-2)) (dX9_paths_0.at 14 rfl) kc_X9_259 (by decide) ?_
      exact sw_lret (dX9_paths_0.at 15 rfl) rfl (Nat.le_refl _) (Nat.le_refl _) hv
    · replace hv := hv.2 (bz_n0 q)
      refine sw_iload_n (dX9_paths_0.at 8 rfl) rfl rfl ?_
      refine sw_i2l (dX9_paths_0.at 9 rfl) hv.1 ?_
      replace hv := hv.2
      refine sw_lconst (z := 0) (dX9_paths_0.at 10 rfl) (by decide) ?_
      refine sw_ldc2 (z := 30) (dX9_paths_0.at 11 rfl) kc_X9_384 (by decide) ?_
      refine sw_callS (post' := post) (B' := B0) (As := [vl (u), vl (0), vl (30)]) (mc := 0) (ms := 0) (dX9_paths_0.at 12 rfl) lk_X9_104 rfl rfl (Nat.le_of_ble_eq_true rfl) rfl (Nat.le_refl _) (Nat.le_refl _) ?_
      refine c_X9_in (u := u) (lo := 0) (hi := 30) (j := j + 1) hv.1 hv.2.1 hv.2.2.1 ?_
      replace hv := hv.2.2.2
      refine sw_if_ne (tgt := 32) (dX9_paths_0.at 13 rfl) (by decide) (bz_rng _) (fun q => ?_) (fun q => ?_)
      · replace hv := hv.1 (bz_1 q)
        refine sw_iconst (dX9_paths_0.at 16 rfl) ?_
        refine sw_istore (lo' := [some (vr (49)), some (vi (x)), some (vi (y)), some (vi (u)), some (vi (0)), none, none, none]) (dX9_paths_0.at 17 rfl) (by decide) rfl ?_
        exact hv
      · replace hv := hv.2 (bz_n1 q)
        refine sw_ldc2 (z := (-2)) (dX9_paths_0.at 14 rfl) kc_X9_259 (by decide) ?_
        exact sw_lret (dX9_paths_0.at 15 rfl) rfl (Nat.le_refl _) (Nat.le_refl _) hv

set_option maxHeartbeats 4000000 in
theorem c_X9_paths {G : GG} {j nw nx gn : Nat} {g : Nat → Sh} {c : Nat → Nat → Int} {post : Option AV → AM → Prop} {P : GD} {x y u : Int} (hM : ML c P) (hV : GV P) (hC : GC P) (hm : hMi P) (hB : hBr P) (p1 : -2147483648 ≤ x ∧ x < 2147483648) (p2 : -2147483648 ≤ y ∧ y < 2147483648) (p3 : -2147483648 ≤ u ∧ u < 2147483648) (K : ∀ c2 : Nat → Nat → Int, SC c c2 → post (some (vl (q_paths P x y u))) (S nw nx g, 78 + gn, c2)) : SM G (j + 3) mX9_paths [vr (49), vi (x), vi (y), vi (u)] (S nw nx g, 78 + gn, c) 0 0 post := by
  refine sm_of wX9_paths rfl (Nat.le_of_ble_eq_true rfl) ?_
  have hN60 := GV_N hV
  have hR5 := GV_R hV
  by_cases hv : ((0 ≤ x ∧ x < (gN P : Int)) ∧ 0 ≤ y ∧ y < (gN P : Int)) ∧ 0 ≤ u ∧ u ≤ 30
  · obtain ⟨x, rfl⟩ : ∃ n : Nat, x = (n : Int) := ⟨x.toNat, by omega⟩
    obtain ⟨y, rfl⟩ : ∃ n : Nat, y = (n : Int) := ⟨y.toNat, by omega⟩
    obtain ⟨u, rfl⟩ : ∃ n : Nat, u = (n : Int) := ⟨u.toNat, by omega⟩
    have e : q_paths P ((x : Nat) : Int) ((y : Nat) : Int) ((u : Nat) : Int) = opF P x y (min u (gTop P + 1)) y := by
      rw [q_paths, if_pos hv]
      simp only [Int.toNat_natCast]
    rw [e] at K
    have K1 : ∀ (z : Int) (c2 : Nat → Nat → Int), (SC c c2) → z = (opF P x y (min u (gTop P + 1)) y) → post (some (vl z)) (S nw nx g, 78 + gn, c2) := fun z c2 h e9 => e9 ▸ K c2 h
    have hx : x < gN P := by omega
    have fx := hV.2.2.1 x hx
    have hy : y < gN P := by omega
    have fy := hV.2.2.1 y hy
    rw [opF_gst hV hB hy _ _ (Nat.le_refl _), ← gst_top hV hm hB hy] at K
    refine g_X9_paths_0n hM hV hC hm hB ?_
    refine ⟨?_, ⟨fun q => ?_, fun q => ⟨?_, ⟨fun q => ?_, fun q => ⟨?_, ⟨?_, ?_, ?_, ⟨fun q => ?_, fun q => ?_⟩⟩⟩⟩⟩⟩⟩
    all_goals first | omega | assumption | (exfalso; simp only [decide_eq_true_eq, decide_eq_false_iff_not] at *; omega) | (have l9 := lx_35 (G := G) (j := j) (nw := nw) (nx := nx) (gn := gn) (g := g) (post := post) (x := x) (y := y) (u := u) (H := c 72) (s := c 61) hM hV hx (gN P) 0 (c 67) (by omega) (lx_71 hM hV hC hm hy (by omega) (fun F H s hF => by rw [hF]; exact K _ (SC_wr (SC_wr (SC_wr SC_rf (by decide)) (by decide)) (by decide))) u 0 _ _ _ (by omega) (fun q hq => by rw [iI_at, if_pos (show 0 ≤ q ∧ q < 0 + gN P by omega)]; rfl)); rw [wr_self c 67, wr_self c 72, wr_self c 61] at l9; exact l9) | exact K _ (by first | exact SC_rf | assumption | (refine SC_tr ?_ (by assumption); first | assumption | (refine SC_tr ?_ (by assumption); first | assumption | (refine SC_tr ?_ (by assumption); assumption)))) | (refine K1 _ _ (by first | exact SC_rf | assumption | (refine SC_tr ?_ (by assumption); first | assumption | (refine SC_tr ?_ (by assumption); first | assumption | (refine SC_tr ?_ (by assumption); assumption)))) ?_; first | rfl | (simp [bz, *]; done) | (split <;> first | rfl | omega))
  · have e : q_paths P x y u = (-2) := by rw [q_paths, if_neg hv]
    rw [e] at K
    have K1 : ∀ (z : Int) (c2 : Nat → Nat → Int), (SC c c2) → z = ((-2)) → post (some (vl z)) (S nw nx g, 78 + gn, c2) := fun z c2 h e9 => e9 ▸ K c2 h
    refine g_X9_paths_0 hM hV hC hm hB ?_
    refine ⟨?_, ⟨fun q => ?_, fun q => ⟨?_, ⟨fun q => ?_, fun q => ⟨?_, ⟨?_, ?_, ?_, ⟨fun q => ?_, fun q => ?_⟩⟩⟩⟩⟩⟩⟩
    all_goals first | omega | assumption | (exfalso; simp only [decide_eq_true_eq, decide_eq_false_iff_not] at *; omega) | exact K _ (by first | exact SC_rf | assumption | (refine SC_tr ?_ (by assumption); first | assumption | (refine SC_tr ?_ (by assumption); first | assumption | (refine SC_tr ?_ (by assumption); assumption)))) | (refine K1 _ _ (by first | exact SC_rf | assumption | (refine SC_tr ?_ (by assumption); first | assumption | (refine SC_tr ?_ (by assumption); first | assumption | (refine SC_tr ?_ (by assumption); assumption)))) ?_; first | rfl | (simp [bz, *]; done) | (split <;> first | rfl | omega))

