theorem c_X9_spellsW {G : GG} {j nw nx gn : Nat} {g : Nat → Sh} {c : Nat → Nat → Int} {post : Option AV → AM → Prop} {P : GD} {x : Nat} {s : Nat → Int} (hM : ML c P) (hV : GV P) (hC : GC P) (p1 : x < gN P) (K : ∀ f : Nat → Int, (∀ i, i < gL P x → f i = ((gLet P x i : Nat) : Int)) → post none (S nw nx g, 78 + gn, wr c 61 f)) : SM G (j + 1) mX9_spells [vr 49, vi ((x : Nat) : Int)] (S nw nx g, 78 + gn, wr c 61 s) 0 0 post := by
  refine sm_of wX9_spells rfl (Nat.le_of_ble_eq_true rfl) ?_
  exact g_X9_spells_0 (lp_X9_spells_2 (G := G) (j := j) hM hV hC p1 K (gL P x) 0 s (by omega) (fun i h1 h2 => by omega))

set_option maxHeartbeats 2000000 in
set_option maxRecDepth 20000 in
theorem g_X9_product_W {G : GG} {j nw nx gn : Nat} {g : Nat → Sh} {c : Nat → Nat → Int} {post : Option AV → AM → Prop} {x : Nat} {y : Nat} {P : GD} {s : Nat → Int} (hM : ML c P) (hV : GV P) (hC : GC P)  (hv : (y < gN P) ∧ (∀ s_1 : Nat → Int, (∀ i, i < gL P y → s_1 i = ((gLet P y i : Nat) : Int)) → SW G (j + 1) mX9_product 10 [some (vr (49)), some (vi (((x : Nat) : Int))), some (vi (((y : Nat) : Int))), some (vi (((x : Nat) : Int))), some (vi (0))] [] (S nw nx g, 78 + gn, (wr c 61 s_1)) B0 post)) :
    SW G (j + 1) mX9_product 0 [some (vr (49)), some (vi (((x : Nat) : Int))), some (vi (((y : Nat) : Int))), none, none] [] (S nw nx g, 78 + gn, (wr c 61 s)) B0 post := by
  refine sw_aload_n (dX9_product.at 0 rfl) rfl rfl ?_
  refine sw_iload_n (dX9_product.at 1 rfl) rfl rfl ?_
  refine sw_callV (B' := B0) (As := [vi (((y : Nat) : Int))]) (mc := 0) (ms := 0) (dX9_product.at 2 rfl) lk_X9_234 (S_lt 49 (by decide)) (S_49 nw nx g) rfl rfl (Nat.le_of_ble_eq_true rfl) rfl (Nat.le_refl _) (Nat.le_refl _) ?_
  refine c_X9_spellsW (c := c) (s := s) (x := y) (j := j + 0) hM hV hC hv.1 (fun s_1 h_1 => ?_)
  replace hv := hv.2 s_1 h_1
  refine sw_iload_n (dX9_product.at 3 rfl) rfl rfl ?_
  refine sw_istore_n (lo' := [some (vr (49)), some (vi (((x : Nat) : Int))), some (vi (((y : Nat) : Int))), some (vi (((x : Nat) : Int))), none]) (dX9_product.at 4 rfl) rfl (by decide) rfl ?_
  refine sw_iconst (dX9_product.at 5 rfl) ?_
  refine sw_istore (lo' := [some (vr (49)), some (vi (((x : Nat) : Int))), some (vi (((y : Nat) : Int))), some (vi (((x : Nat) : Int))), some (vi (0))]) (dX9_product.at 6 rfl) (by decide) rfl ?_
  exact hv

theorem c_X9_productW {G : GG} {j nw nx gn : Nat} {g : Nat → Sh} {c : Nat → Nat → Int} {post : Option AV → AM → Prop} {P : GD} {x y : Nat} {s : Nat → Int} (hM : ML c P) (hV : GV P) (hC : GC P) (p1 : x < gN P) (p2 : y < gN P) (K : ∀ s1 : Nat → Int, post (some (vi ((gX P x y : Nat) : Int))) (S nw nx g, 78 + gn, wr c 61 s1)) : SM G (j + 2) mX9_product [vr 49, vi ((x : Nat) : Int), vi ((y : Nat) : Int)] (S nw nx g, 78 + gn, wr c 61 s) 0 0 post := by
  refine sm_of wX9_product rfl (Nat.le_of_ble_eq_true rfl) ?_
  have hl := (hV.2.2.1 y p2).1
  refine g_X9_product_W hM hV hC ?_
  refine ⟨?_, fun s_1 h_1 => ?_⟩
  all_goals first | assumption | omega | exact lp_X9_product_10 (ML_SC hM (SC_wr SC_rf (a := 61) (f := s_1) (by decide))) hV hl (fun i hi => h_1 i hi) p2 (gL P y) 0 x (by omega) p1 (by rw [wlF_all hC hV p1 p2]; exact K _)

theorem c_X9_productV {G : GG} {j nw nx gn : Nat} {g : Nat → Sh} {c : Nat → Nat → Int} {post : Option AV → AM → Prop} {P : GD} {x y : Nat} {s : Nat → Int} (hM : ML c P) (hV : GV P) (hC : GC P) (p1 : x < gN P) (p2 : y < gN P) (K : ∀ s1 : Nat → Int, True → post (some (vi ((gX P x y : Nat) : Int))) (S nw nx g, 78 + gn, wr c 61 s1)) : SM G (j + 2) mX9_product [vr 49, vi ((x : Nat) : Int), vi ((y : Nat) : Int)] (S nw nx g, 78 + gn, wr c 61 s) 0 0 post := c_X9_productW hM hV hC p1 p2 (fun s1 => K s1 trivial)

def hMi (P : GD) : Prop :=
  gM P ≤ 15 ∧
  (∀ x, x < gN P → (gO P x = 0 ↔ x = 0)) ∧
  (∀ x i, x < gN P → i < gM P → gO P (gX P (gT P i) x) ≤ gO P x + 1) ∧
  (∀ x, x < gN P → 0 < x → ∃ u i, u < gN P ∧ i < gM P ∧ gX P (gT P i) u = x ∧ gO P u + 1 = gO P x) ∧
  (∀ x i, x < gN P → i < gM P → gX P (gX P x (gT P i)) (gT P i) = x)
def FAR : Nat := 1000000
/-- what is reached after t steps and, in step t, the elements before x; i: of x the mirrors before i -/
def MT (P : GD) (t x i : Nat) (f : Nat → Nat) : Prop := ∀ y, y < gN P →
  (gO P y ≤ t → f y = gO P y) ∧ (t + 1 < gO P y → f y = FAR) ∧
  (gO P y = t + 1 → (f y = t + 1 ∨ f y = FAR) ∧ (∀ u q, u < gN P → q < gM P → gX P (gT P q) u = y → gO P u = t → (u < x ∨ (u = x ∧ q < i)) → f y = t + 1))
def iM : Nat → Nat → (Nat → Nat) → Nat → Nat
  | 0, _, f => f
  | k + 1, x, f => iM k (x + 1) (uN f x (if x = 0 then 0 else 1000000))
theorem iM_at : ∀ k x f y, iM k x f y = if x ≤ y ∧ y < x + k then (if y = 0 then 0 else 1000000) else f y := by
  intro k
  induction k with
  | zero => intro x f y; rw [iM, if_neg (by omega)]
  | succ k ih =>
    intro x f y
    rw [iM, ih]
    by_cases h : x + 1 ≤ y ∧ y < x + 1 + k
    · rw [if_pos h, if_pos (show x ≤ y ∧ y < x + (k + 1) by omega)]
    · rw [if_neg h]
      by_cases e : y = x
      · subst e; rw [uN_eq, if_pos (show y ≤ y ∧ y < y + (k + 1) by omega)]
      · rw [uN_ne e, if_neg (by omega)]
theorem MT_0 {P : GD} (hm : hMi P) {f : Nat → Nat} : MT P 0 0 0 (iM (gN P) 0 f) := by
  intro y hy
  have h0 := hm.2.1 y hy
  rw [iM_at, if_pos (by omega)]
  refine ⟨fun h => ?_, fun h => ?_, fun h => ⟨?_, fun u q _ _ _ _ h2 => by omega⟩⟩
  · rw [if_pos (h0.mp (by omega))]; omega
  · rw [if_neg (fun e => by have := h0.mpr e; omega)]; rfl
  · right; rw [if_neg (fun e => by have := h0.mpr e; omega)]; rfl
theorem MT_step {P : GD} (hV : GV P) (hm : hMi P) {t x i : Nat} {f : Nat → Nat} (hx : x < gN P) (hi : i < gM P) (h : MT P t x i f) (hf : f x = t) : MT P t x (i + 1) (uN f (gX P (gT P i) x) (min (f (gX P (gT P i) x)) (t + 1))) ∧ uN f (gX P (gT P i) x) (min (f (gX P (gT P i) x)) (t + 1)) x = t := by
  have ht5 := (hV.2.2.1 x hx).2.2.2.2.2.2.1
  have hox : gO P x = t := by
    obtain ⟨a, b, c⟩ := h x hx
    rcases Nat.lt_trichotomy (gO P x) (t + 1) with q | q | q
    · rw [a (by omega)] at hf; omega
    · have := (c q).1; simp only [FAR] at this; omega
    · rw [b (by omega)] at hf; simp only [FAR] at hf; omega
  have hle := hm.2.2.1 x i hx hi
  have hyl := hV.2.2.2.2.1 _ _ (hV.2.2.2.2.2 i hi) hx
  have key : ∀ y, y < gN P → (f y = gO P y ∧ gO P y ≤ t + 1) ∨ (f y = FAR ∧ t < gO P y) := by
    intro y hy
    obtain ⟨a, b, c⟩ := h y hy
    rcases Nat.lt_trichotomy (gO P y) (t + 1) with q | q | q
    · exact Or.inl ⟨a (by omega), by omega⟩
    · rcases (c q).1 with e | e
      · exact Or.inl ⟨by omega, by omega⟩
      · exact Or.inr ⟨e, by omega⟩
    · exact Or.inr ⟨b (by omega), by omega⟩
  refine ⟨?_, ?_⟩
  · intro y hy
    obtain ⟨a, b, c⟩ := h y hy
    by_cases e : y = gX P (gT P i) x
    · subst e
      rw [uN_eq]
      have k1 := key _ hyl
      refine ⟨fun q => ?_, fun q => by omega, fun q => ⟨Or.inl ?_, fun u r _ _ _ _ _ => ?_⟩⟩
      · rw [a q]; omega
      · rcases k1 with k1 | k1
        · rw [k1.1]; omega
        · rw [k1.1]; simp only [FAR]; omega
      · rcases k1 with k1 | k1
        · rw [k1.1]; omega
        · rw [k1.1]; simp only [FAR]; omega
    · rw [uN_ne e]
      refine ⟨a, b, fun q => ⟨(c q).1, fun u r hu hr hy2 ho hh => ?_⟩⟩
      by_cases e2 : u = x ∧ r = i
      · rw [e2.1, e2.2] at hy2; exact absurd hy2.symm e
      · exact (c q).2 u r hu hr hy2 ho (by omega)
  · by_cases e : x = gX P (gT P i) x
    · rw [← e, uN_eq, hf]; omega
    · rw [uN_ne e]; exact hf
theorem MT_nextx {P : GD} {t x i : Nat} {f : Nat → Nat} (hx : x < gN P) (h : MT P t x i f) (hq : i = gM P ∨ f x ≠ t) : MT P t (x + 1) 0 f := by
  intro y hy
  obtain ⟨a, b, c⟩ := h y hy
  refine ⟨a, b, fun q => ⟨(c q).1, fun u r hu hr hy2 ho hh => ?_⟩⟩
  by_cases e : u = x
  · rcases hq with hq | hq
    · exact (c q).2 u r hu hr hy2 ho (Or.inr ⟨e, by omega⟩)
    · have := (h x hx).1 (by rw [← e, ho]; exact Nat.le_refl _)
      rw [← e, ho] at this
      rw [← e] at hq
      exact absurd this hq
  · exact (c q).2 u r hu hr hy2 ho (by omega)
theorem MT_nextt {P : GD} (hm : hMi P) {t : Nat} {f : Nat → Nat} (h : MT P t (gN P) 0 f) : MT P (t + 1) 0 0 f := by
  intro y hy
  obtain ⟨a, b, c⟩ := h y hy
  refine ⟨fun q => ?_, fun q => b (by omega), fun q => ⟨Or.inr (b (by omega)), fun u r _ _ _ _ hh => by omega⟩⟩
  rcases Nat.lt_or_ge (gO P y) (t + 1) with e | e
  · exact a (by omega)
  · have e2 : gO P y = t + 1 := by omega
    have h0 : 0 < y := by
      rcases Nat.eq_zero_or_pos y with z | z
      · have := (hm.2.1 y hy).mpr z; omega
      · exact z
    obtain ⟨u, r, hu, hr, h1, h2⟩ := hm.2.2.2.1 y hy h0
    rw [(c e2).2 u r hu hr h1 (by omega) (Or.inl hu), e2]
theorem MT_end {P : GD} (hV : GV P) {f : Nat → Nat} (h : MT P 5 0 0 f) : ∀ y, y < gN P → f y = gO P y := fun y hy => (h y hy).1 (hV.2.2.1 y hy).2.2.2.2.2.2.1
theorem MT_bd {P : GD} (hV : GV P) {t x i : Nat} {f : Nat → Nat} (h : MT P t x i f) {y : Nat} (hy : y < gN P) : f y ≤ 1000000 := by
  have h5 := (hV.2.2.1 y hy).2.2.2.2.2.2.1
  obtain ⟨a, b, c⟩ := h y hy
  rcases Nat.lt_trichotomy (gO P y) (t + 1) with q | q | q
  · rw [a (by omega)]; omega
  · rcases (c q).1 with e | e
    · omega
    · rw [e]; exact Nat.le_refl _
  · rw [b (by omega)]; exact Nat.le_refl _
abbrev RW (P : GD) (F : Nat → Int) (f : Nat → Nat) : Prop := ∀ y, y < gN P → F y = ((f y : Nat) : Int)
theorem RW_u {P : GD} {F : Nat → Int} {f : Nat → Nat} (h : RW P F f) {k v : Nat} : RW P (u1 F k ((v : Nat) : Int)) (uN f k v) := by
  intro y hy
  by_cases e : y = k
  · rw [e, u1_eq, uN_eq]
  · rw [u1_ne e, uN_ne e]; exact h y hy
set_option maxHeartbeats 2000000 in
set_option maxRecDepth 20000 in
theorem g_X9_laysMirrorsTo_52 {G : GG} {j nw nx gn : Nat} {g : Nat → Sh} {c : Nat → Nat → Int} {post : Option AV → AM → Prop} {P : GD} {t : Nat} {x : Nat} {i : Nat} {F : Nat → Int} {f : Nat → Nat} {s : Nat → Int} (hM : ML c P) (hV : GV P) (hC : GC P) (hF : RW P F f)  (hv : (i < 2147483648) ∧ (gM P < 2147483648) ∧ (((gM P ≤ i) → SW G (j + 2) mX9_laysMirrorsTo 42 [some (vr (49)), some (vi (((t : Nat) : Int))), some (vi (((x + 1 : Nat) : Int))), none, none] [] (S nw nx g, 78 + gn, (wr (wr c 71 F) 61 s)) B0 post) ∧ ((¬ (gM P ≤ i)) → (x < gN P) ∧ ((f x < 2147483648) ∧ (t < 2147483648) ∧ (((f x ≠ t) → SW G (j + 2) mX9_laysMirrorsTo 42 [some (vr (49)), some (vi (((t : Nat) : Int))), some (vi (((x + 1 : Nat) : Int))), none, none] [] (S nw nx g, 78 + gn, (wr (wr c 71 F) 61 s)) B0 post) ∧ ((f x = t) → (i < gM P) ∧ (((gT P i) < gN P) ∧ (x < gN P) ∧ (∀ s_1 : Nat → Int, True → (gX P (gT P i) x < gN P) ∧ ((f (gX P (gT P i) x) < 2147483648) ∧ (t + 1 < 2147483648) ∧ ((gX P (gT P i) x < 60) ∧ (SW G (j + 2) mX9_laysMirrorsTo 52 [some (vr (49)), some (vi (((t : Nat) : Int))), some (vi (((x : Nat) : Int))), some (vi (((i + 1 : Nat) : Int))), none] [] (S nw nx g, 78 + gn, (wr (wr c 71 (u1 F (gX P (gT P i) x) (((min (f (gX P (gT P i) x)) (t + 1)) : Nat) : Int))) 61 s_1)) B0 post))))))))))) :
    SW G (j + 2) mX9_laysMirrorsTo 52 [some (vr (49)), some (vi (((t : Nat) : Int))), some (vi (((x : Nat) : Int))), some (vi (((i : Nat) : Int))), none] [] (S nw nx g, 78 + gn, (wr (wr c 71 F) 61 s)) B0 post := by
  refine sw_iload_n (dX9_laysMirrorsTo_0.at 30 rfl) rfl rfl ?_
  refine sw_aload_n (dX9_laysMirrorsTo_0.at 31 rfl) rfl rfl ?_
  refine sw_getIE (w := ((gM P : Nat) : Int)) (dX9_laysMirrorsTo_0.at 32 rfl) fp_X9_215 (S_lt 49 (by decide)) (S_49 nw nx g) rfl ((wr_off (c := (wr c 71 F)) (a := 61) (f := s) (i := 49) (k := 21) (by decide)).trans ((wr_off (c := c) (a := 71) (f := F) (i := 49) (k := 21) (by decide)).trans hM.1.2.2.1)) ?_
  refine sw_icmpN_ge i (gM P) (tgt := 109) (dX9_laysMirrorsTo_0.at 33 rfl) (by decide) hv.1 hv.2.1 (fun q => ?_) (fun q => ?_)
  · replace hv := hv.2.2.1 q
    refine sw_iinc (lo' := [some (vr (49)), some (vi (((t : Nat) : Int))), some (vi (((x + 1 : Nat) : Int))), some (vi (((i : Nat) : Int))), none]) (dX9_laysMirrorsTo_1.at 12 rfl) rfl (by decide) rfl ?_
    refine sw_goto (tgt := 42) (dX9_laysMirrorsTo_1.at 13 rfl) (by decide) ?_
    exact sw_mask (bs := [true, true, true, false, false]) hv
  · replace hv := hv.2.2.2 q
    refine sw_aload_n (dX9_laysMirrorsTo_0.at 34 rfl) rfl rfl ?_
    refine sw_getR (dX9_laysMirrorsTo_0.at 35 rfl) fp_X9_80 (S_lt 49 (by decide)) (S_49 nw nx g) rfl rfl ?_
    refine sw_iload_n (dX9_laysMirrorsTo_0.at 36 rfl) rfl rfl ?_
    refine sw_ialdN x (w := ((f x : Nat) : Int)) (dX9_laysMirrorsTo_0.at 37 rfl) (S_lt 71 (by decide)) (S_71 nw nx g) (by decide) (GV_lt hV hv.1) (hF _ hv.1) ?_
    replace hv := hv.2
    refine sw_iload_n (dX9_laysMirrorsTo_0.at 38 rfl) rfl rfl ?_
    refine sw_icmpN_ne (f x) t (tgt := 109) (dX9_laysMirrorsTo_0.at 39 rfl) (by decide) hv.1 hv.2.1 (fun q => ?_) (fun q => ?_)
    · replace hv := hv.2.2.1 q
      refine sw_iinc (lo' := [some (vr (49)), some (vi (((t : Nat) : Int))), some (vi (((x + 1 : Nat) : Int))), some (vi (((i : Nat) : Int))), none]) (dX9_laysMirrorsTo_1.at 12 rfl) rfl (by decide) rfl ?_
      refine sw_goto (tgt := 42) (dX9_laysMirrorsTo_1.at 13 rfl) (by decide) ?_
      exact sw_mask (bs := [true, true, true, false, false]) hv
    · replace hv := hv.2.2.2 q
      refine sw_aload_n (dX9_laysMirrorsTo_0.at 40 rfl) rfl rfl ?_
      refine sw_aload_n (dX9_laysMirrorsTo_0.at 41 rfl) rfl rfl ?_
      refine sw_getR (dX9_laysMirrorsTo_0.at 42 rfl) fp_X9_44 (S_lt 49 (by decide)) (S_49 nw nx g) rfl rfl ?_
      refine sw_iload_n (dX9_laysMirrorsTo_0.at 43 rfl) rfl rfl ?_
      refine sw_ialdN i (w := ((gT P i : Nat) : Int)) (dX9_laysMirrorsTo_0.at 44 rfl) (S_lt 60 (by decide)) (S_60 nw nx g) (by decide) (GV_ltM hV hv.1) (ML_T (ML_SC hM (SC_wr (SC_wr SC_rf (a := 71) (f := F) (by decide)) (a := 61) (f := s) (by decide))) hv.1) ?_
      replace hv := hv.2
      refine sw_iload_n (dX9_laysMirrorsTo_0.at 45 rfl) rfl rfl ?_
      refine sw_callV (B' := B0) (As := [vi (((gT P i : Nat) : Int)), vi (((x : Nat) : Int))]) (mc := 0) (ms := 0) (dX9_laysMirrorsTo_0.at 46 rfl) lk_X9_237 (S_lt 49 (by decide)) (S_49 nw nx g) rfl rfl (Nat.le_of_ble_eq_true rfl) rfl (Nat.le_refl _) (Nat.le_refl _) ?_
      refine c_X9_productV (c := (wr c 71 F)) (s := s) (x := (gT P i)) (y := x) (j := j + 0) (ML_SC hM (SC_wr SC_rf (a := 71) (f := F) (by decide))) hV hC hv.1 hv.2.1 (fun s_1 h_1 => ?_)
      replace hv := hv.2.2 s_1 h_1
      refine sw_istore (lo' := [some (vr (49)), some (vi (((t : Nat) : Int))), some (vi (((x : Nat) : Int))), some (vi (((i : Nat) : Int))), some (vi (((gX P (gT P i) x : Nat) : Int)))]) (dX9_laysMirrorsTo_0.at 47 rfl) (by decide) rfl ?_
      refine sw_aload_n (dX9_laysMirrorsTo_0.at 48 rfl) rfl rfl ?_
      refine sw_getR (dX9_laysMirrorsTo_0.at 49 rfl) fp_X9_80 (S_lt 49 (by decide)) (S_49 nw nx g) rfl rfl ?_
      refine sw_iload (dX9_laysMirrorsTo_1.at 0 rfl) rfl ?_
      refine sw_aload_n (dX9_laysMirrorsTo_1.at 1 rfl) rfl rfl ?_
      refine sw_getR (dX9_laysMirrorsTo_1.at 2 rfl) fp_X9_80 (S_lt 49 (by decide)) (S_49 nw nx g) rfl rfl ?_
      refine sw_iload (dX9_laysMirrorsTo_1.at 3 rfl) rfl ?_
      refine sw_ialdN (gX P (gT P i) x) (w := ((f (gX P (gT P i) x) : Nat) : Int)) (dX9_laysMirrorsTo_1.at 4 rfl) (S_lt 71 (by decide)) (S_71 nw nx g) (by decide) (GV_lt hV hv.1) (hF _ hv.1) ?_
      replace hv := hv.2
      refine sw_iload_n (dX9_laysMirrorsTo_1.at 5 rfl) rfl rfl ?_
      refine sw_iconst (dX9_laysMirrorsTo_1.at 6 rfl) ?_
      refine sw_iadd (dX9_laysMirrorsTo_1.at 7 rfl) ?_
      refine sw_topI (y := ((t + 1 : Nat) : Int)) (by first | rfl | (congr 1)) ?_
      refine sw_imin (dX9_laysMirrorsTo_1.at 8 rfl) lk_X9_125 (Nat.le_of_ble_eq_true rfl) (Nat.le_refl _) (Nat.le_refl _) (nrng hv.1) (nrng hv.2.1) ?_
      refine sw_topI (y := (((min (f (gX P (gT P i) x)) (t + 1)) : Nat) : Int)) (congrArg _ (min_if _ _)) ?_
      replace hv := hv.2.2
      refine sw_iastN (gX P (gT P i) x) (dX9_laysMirrorsTo_1.at 9 rfl) (S_lt 71 (by decide)) (S_71 nw nx g) (by decide) hv.1 ?_
      refine SW.cg (M' := (S nw nx g, 78 + gn, (wr (wr c 71 (u1 F (gX P (gT P i) x) (((min (f (gX P (gT P i) x)) (t + 1)) : Nat) : Int))) 61 s_1))) (congrArg (fun m => (S nw nx g, 78 + gn, m)) ((wr_up_in (wr c 71 F) 61 s_1 71 (gX P (gT P i) x) (((min (f (gX P (gT P i) x)) (t + 1)) : Nat) : Int) (by decide)).trans (congrArg (fun m => wr m 61 s_1) (wr_up c 71 F (gX P (gT P i) x) (((min (f (gX P (gT P i) x)) (t + 1)) : Nat) : Int))))) ?_
      replace hv := hv.2
      refine sw_iinc (lo' := [some (vr (49)), some (vi (((t : Nat) : Int))), some (vi (((x : Nat) : Int))), some (vi (((i + 1 : Nat) : Int))), some (vi (((gX P (gT P i) x : Nat) : Int)))]) (dX9_laysMirrorsTo_1.at 10 rfl) rfl (by decide) rfl ?_
      refine sw_goto (tgt := 52) (dX9_laysMirrorsTo_1.at 11 rfl) (by decide) ?_
      exact sw_mask (bs := [true, true, true, true, false]) hv

set_option maxHeartbeats 2000000 in
set_option maxRecDepth 20000 in
theorem g_X9_laysMirrorsTo_42 {G : GG} {j nw nx gn : Nat} {g : Nat → Sh} {c : Nat → Nat → Int} {post : Option AV → AM → Prop} {P : GD} {t : Nat} {x : Nat} {F : Nat → Int} {f : Nat → Nat} {s : Nat → Int} (hM : ML c P) (hV : GV P) (hC : GC P) (hF : RW P F f)  (hv : (x < 2147483648) ∧ (gN P < 2147483648) ∧ (((gN P ≤ x) → SW G (j + 2) mX9_laysMirrorsTo 35 [some (vr (49)), some (vi (((t + 1 : Nat) : Int))), none, none, none] [] (S nw nx g, 78 + gn, (wr (wr c 71 F) 61 s)) B0 post) ∧ ((¬ (gN P ≤ x)) → SW G (j + 2) mX9_laysMirrorsTo 52 [some (vr (49)), some (vi (((t : Nat) : Int))), some (vi (((x : Nat) : Int))), some (vi (0)), none] [] (S nw nx g, 78 + gn, (wr (wr c 71 F) 61 s)) B0 post))) :
    SW G (j + 2) mX9_laysMirrorsTo 42 [some (vr (49)), some (vi (((t : Nat) : Int))), some (vi (((x : Nat) : Int))), none, none] [] (S nw nx g, 78 + gn, (wr (wr c 71 F) 61 s)) B0 post := by
  refine sw_iload_n (dX9_laysMirrorsTo_0.at 24 rfl) rfl rfl ?_
  refine sw_aload_n (dX9_laysMirrorsTo_0.at 25 rfl) rfl rfl ?_
  refine sw_getIE (w := ((gN P : Nat) : Int)) (dX9_laysMirrorsTo_0.at 26 rfl) fp_X9_196 (S_lt 49 (by decide)) (S_49 nw nx g) rfl ((wr_off (c := (wr c 71 F)) (a := 61) (f := s) (i := 49) (k := 22) (by decide)).trans ((wr_off (c := c) (a := 71) (f := F) (i := 49) (k := 22) (by decide)).trans hM.1.2.1)) ?_
  refine sw_icmpN_ge x (gN P) (tgt := 115) (dX9_laysMirrorsTo_0.at 27 rfl) (by decide) hv.1 hv.2.1 (fun q => ?_) (fun q => ?_)
  · replace hv := hv.2.2.1 q
    refine sw_iinc (lo' := [some (vr (49)), some (vi (((t + 1 : Nat) : Int))), some (vi (((x : Nat) : Int))), none, none]) (dX9_laysMirrorsTo_1.at 14 rfl) rfl (by decide) rfl ?_
    refine sw_goto (tgt := 35) (dX9_laysMirrorsTo_1.at 15 rfl) (by decide) ?_
    exact sw_mask (bs := [true, true, false, false, false]) hv
  · replace hv := hv.2.2.2 q
    refine sw_iconst (dX9_laysMirrorsTo_0.at 28 rfl) ?_
    refine sw_istore_n (lo' := [some (vr (49)), some (vi (((t : Nat) : Int))), some (vi (((x : Nat) : Int))), some (vi (0)), none]) (dX9_laysMirrorsTo_0.at 29 rfl) rfl (by decide) rfl ?_
    exact hv

set_option maxHeartbeats 2000000 in
set_option maxRecDepth 20000 in
theorem g_X9_laysMirrorsTo_35 {G : GG} {j nw nx gn : Nat} {g : Nat → Sh} {c : Nat → Nat → Int} {post : Option AV → AM → Prop} {P : GD} {t : Nat} {F : Nat → Int} {f : Nat → Nat} {s : Nat → Int} (hM : ML c P) (hV : GV P) (hC : GC P) (hF : RW P F f)  (hv : (t < 2147483648) ∧ (((5 ≤ t) → post none (S nw nx g, 78 + gn, (wr (wr c 71 F) 61 s))) ∧ ((¬ (5 ≤ t)) → SW G (j + 2) mX9_laysMirrorsTo 42 [some (vr (49)), some (vi (((t : Nat) : Int))), some (vi (0)), none, none] [] (S nw nx g, 78 + gn, (wr (wr c 71 F) 61 s)) B0 post))) :
    SW G (j + 2) mX9_laysMirrorsTo 35 [some (vr (49)), some (vi (((t : Nat) : Int))), none, none, none] [] (S nw nx g, 78 + gn, (wr (wr c 71 F) 61 s)) B0 post := by
  refine sw_iload_n (dX9_laysMirrorsTo_0.at 19 rfl) rfl rfl ?_
  refine sw_iconst (dX9_laysMirrorsTo_0.at 20 rfl) ?_
  refine sw_icmpN_ge t 5 (tgt := 121) (dX9_laysMirrorsTo_0.at 21 rfl) (by decide) hv.1 (by decide) (fun q => ?_) (fun q => ?_)
  · replace hv := hv.2.1 q
    exact sw_vret (dX9_laysMirrorsTo_1.at 16 rfl) rfl (Nat.le_refl _) (Nat.le_refl _) hv
  · replace hv := hv.2.2 q
    refine sw_iconst (dX9_laysMirrorsTo_0.at 22 rfl) ?_
    refine sw_istore_n (lo' := [some (vr (49)), some (vi (((t : Nat) : Int))), some (vi (0)), none, none]) (dX9_laysMirrorsTo_0.at 23 rfl) rfl (by decide) rfl ?_
    exact hv

set_option maxHeartbeats 2000000 in
set_option maxRecDepth 20000 in
theorem g_X9_laysMirrorsTo_2 {G : GG} {j nw nx gn : Nat} {g : Nat → Sh} {c : Nat → Nat → Int} {post : Option AV → AM → Prop} {P : GD} {t : Nat} {F : Nat → Int} {s : Nat → Int} (hM : ML c P) (hV : GV P) (hC : GC P)  (hv : (t < 2147483648) ∧ (gN P < 2147483648) ∧ (((gN P ≤ t) → SW G (j + 2) mX9_laysMirrorsTo 35 [some (vr (49)), some (vi (0)), none, none, none] [] (S nw nx g, 78 + gn, (wr (wr c 71 F) 61 s)) B0 post) ∧ ((¬ (gN P ≤ t)) → (t < 2147483648) ∧ (((t ≠ 0) → (t < 60) ∧ (SW G (j + 2) mX9_laysMirrorsTo 2 [some (vr (49)), some (vi (((t + 1 : Nat) : Int))), none, none, none] [] (S nw nx g, 78 + gn, (wr (wr c 71 (u1 F t 1000000)) 61 s)) B0 post)) ∧ ((t = 0) → (t < 60) ∧ (SW G (j + 2) mX9_laysMirrorsTo 2 [some (vr (49)), some (vi (((t + 1 : Nat) : Int))), none, none, none] [] (S nw nx g, 78 + gn, (wr (wr c 71 (u1 F t 0)) 61 s)) B0 post)))))) :
    SW G (j + 2) mX9_laysMirrorsTo 2 [some (vr (49)), some (vi (((t : Nat) : Int))), none, none, none] [] (S nw nx g, 78 + gn, (wr (wr c 71 F) 61 s)) B0 post := by
  refine sw_iload_n (dX9_laysMirrorsTo_0.at 2 rfl) rfl rfl ?_
  refine sw_aload_n (dX9_laysMirrorsTo_0.at 3 rfl) rfl rfl ?_
  refine sw_getIE (w := ((gN P : Nat) : Int)) (dX9_laysMirrorsTo_0.at 4 rfl) fp_X9_196 (S_lt 49 (by decide)) (S_49 nw nx g) rfl ((wr_off (c := (wr c 71 F)) (a := 61) (f := s) (i := 49) (k := 22) (by decide)).trans ((wr_off (c := c) (a := 71) (f := F) (i := 49) (k := 22) (by decide)).trans hM.1.2.1)) ?_
  refine sw_icmpN_ge t (gN P) (tgt := 33) (dX9_laysMirrorsTo_0.at 5 rfl) (by decide) hv.1 hv.2.1 (fun q => ?_) (fun q => ?_)
  · replace hv := hv.2.2.1 q
    refine sw_iconst (dX9_laysMirrorsTo_0.at 17 rfl) ?_
    refine sw_istore_n (lo' := [some (vr (49)), some (vi (0)), none, none, none]) (dX9_laysMirrorsTo_0.at 18 rfl) rfl (by decide) rfl ?_
    exact hv
  · replace hv := hv.2.2.2 q
    refine sw_aload_n (dX9_laysMirrorsTo_0.at 6 rfl) rfl rfl ?_
    refine sw_getR (dX9_laysMirrorsTo_0.at 7 rfl) fp_X9_80 (S_lt 49 (by decide)) (S_49 nw nx g) rfl rfl ?_
    refine sw_iload_n (dX9_laysMirrorsTo_0.at 8 rfl) rfl rfl ?_
    refine sw_iload_n (dX9_laysMirrorsTo_0.at 9 rfl) rfl rfl ?_
    refine sw_ifN_ne t (tgt := 23) (dX9_laysMirrorsTo_0.at 10 rfl) (by decide) hv.1 (fun q => ?_) (fun q => ?_)
    · replace hv := hv.2.1 q
      refine sw_ldcw (z := 1000000) (dX9_laysMirrorsTo_0.at 13 rfl) kc_X9_274 (by decide) ?_
      refine sw_iastN t (dX9_laysMirrorsTo_0.at 14 rfl) (S_lt 71 (by decide)) (S_71 nw nx g) (by decide) hv.1 ?_
      refine SW.cg (M' := (S nw nx g, 78 + gn, (wr (wr c 71 (u1 F t 1000000)) 61 s))) (congrArg (fun m => (S nw nx g, 78 + gn, m)) ((wr_up_in (wr c 71 F) 61 s 71 t 1000000 (by decide)).trans (congrArg (fun m => wr m 61 s) (wr_up c 71 F t 1000000)))) ?_
      replace hv := hv.2
      refine sw_iinc (lo' := [some (vr (49)), some (vi (((t + 1 : Nat) : Int))), none, none, none]) (dX9_laysMirrorsTo_0.at 15 rfl) rfl (by decide) rfl ?_
      refine sw_goto (tgt := 2) (dX9_laysMirrorsTo_0.at 16 rfl) (by decide) ?_
      exact hv
    · replace hv := hv.2.2 q
      refine sw_iconst (dX9_laysMirrorsTo_0.at 11 rfl) ?_
      refine sw_goto (tgt := 26) (dX9_laysMirrorsTo_0.at 12 rfl) (by decide) ?_
      refine sw_iastN t (dX9_laysMirrorsTo_0.at 14 rfl) (S_lt 71 (by decide)) (S_71 nw nx g) (by decide) hv.1 ?_
      refine SW.cg (M' := (S nw nx g, 78 + gn, (wr (wr c 71 (u1 F t 0)) 61 s))) (congrArg (fun m => (S nw nx g, 78 + gn, m)) ((wr_up_in (wr c 71 F) 61 s 71 t 0 (by decide)).trans (congrArg (fun m => wr m 61 s) (wr_up c 71 F t 0)))) ?_
      replace hv := hv.2
      refine sw_iinc (lo' := [some (vr (49)), some (vi (((t + 1 : Nat) : Int))), none, none, none]) (dX9_laysMirrorsTo_0.at 15 rfl) rfl (by decide) rfl ?_
      refine sw_goto (tgt := 2) (dX9_laysMirrorsTo_0.at 16 rfl) (by decide) ?_
      exact hv

set_option maxHeartbeats 4000000 in
theorem lm_52 {G : GG} {j nw nx gn : Nat} {g : Nat → Sh} {c : Nat → Nat → Int} {post : Option AV → AM → Prop} {P : GD} {t x : Nat} (hM : ML c P) (hV : GV P) (hC : GC P) (hm : hMi P) (ht : t < 5) (hx : x < gN P) (K : ∀ (F : Nat → Int) (f : Nat → Nat) (s : Nat → Int), RW P F f → MT P t (x + 1) 0 f → SW G (j + 2) mX9_laysMirrorsTo 42 [some (vr (49)), some (vi (((t : Nat) : Int))), some (vi (((x + 1 : Nat) : Int))), none, none] [] (S nw nx g, 78 + gn, (wr (wr c 71 F) 61 s)) B0 post) : ∀ (k i : Nat) (F : Nat → Int) (f : Nat → Nat) (s : Nat → Int), i + k = gM P → RW P F f → MT P t x i f → SW G (j + 2) mX9_laysMirrorsTo 52 [some (vr (49)), some (vi (((t : Nat) : Int))), some (vi (((x : Nat) : Int))), some (vi (((i : Nat) : Int))), none] [] (S nw nx g, 78 + gn, (wr (wr c 71 F) 61 s)) B0 post := by
  have h60 := GV_N hV
  intro k
  induction k with
  | zero =>
    intro i F f s hi hF hT
    have b1 := MT_bd hV hT hx
    have h15 := hm.1
    refine g_X9_laysMirrorsTo_52 hM hV hC hF ?_
    refine ⟨?_, ?_, ⟨fun q => ?_, fun q => ⟨?_, ⟨?_, ?_, ⟨fun q => ?_, fun q => ⟨?_, ⟨?_, ?_, fun s_1 h_1 => ⟨?_, ⟨?_, ?_, ⟨?_, ?_⟩⟩⟩⟩⟩⟩⟩⟩⟩⟩
    all_goals first | omega | exact K F f s hF (MT_nextx hx hT (Or.inl (by omega))) | (exfalso; omega)
  | succ k ih =>
    intro i F f s hi hF hT
    have b1 := MT_bd hV hT hx
    have h15 := hm.1
    have t1 := hV.2.2.2.2.2 i (by omega)
    have t2 := hV.2.2.2.2.1 _ _ t1 hx
    have b2 := MT_bd hV hT t2
    refine g_X9_laysMirrorsTo_52 hM hV hC hF ?_
    by_cases e : f x = t
    · have t3 := MT_step hV hm hx (show i < gM P by omega) hT e
      refine ⟨?_, ?_, ⟨fun q => ?_, fun q => ⟨?_, ⟨?_, ?_, ⟨fun q => ?_, fun q => ⟨?_, ⟨?_, ?_, fun s_1 h_1 => ⟨?_, ⟨?_, ?_, ⟨?_, ?_⟩⟩⟩⟩⟩⟩⟩⟩⟩⟩
      all_goals first | omega | assumption | (exfalso; omega) | exact ih (i + 1) _ _ _ (by omega) (RW_u hF) t3.1
    · refine ⟨?_, ?_, ⟨fun q => ?_, fun q => ⟨?_, ⟨?_, ?_, ⟨fun q => ?_, fun q => ⟨?_, ⟨?_, ?_, fun s_1 h_1 => ⟨?_, ⟨?_, ?_, ⟨?_, ?_⟩⟩⟩⟩⟩⟩⟩⟩⟩⟩
      all_goals first | omega | assumption | exact K F f s hF (MT_nextx hx hT (Or.inr e)) | (exfalso; omega)
set_option maxHeartbeats 4000000 in
theorem lm_42 {G : GG} {j nw nx gn : Nat} {g : Nat → Sh} {c : Nat → Nat → Int} {post : Option AV → AM → Prop} {P : GD} {t : Nat} (hM : ML c P) (hV : GV P) (hC : GC P) (hm : hMi P) (ht : t < 5) (K : ∀ (F : Nat → Int) (f : Nat → Nat) (s : Nat → Int), RW P F f → MT P t (gN P) 0 f → SW G (j + 2) mX9_laysMirrorsTo 35 [some (vr (49)), some (vi (((t + 1 : Nat) : Int))), none, none, none] [] (S nw nx g, 78 + gn, (wr (wr c 71 F) 61 s)) B0 post) : ∀ (k x : Nat) (F : Nat → Int) (f : Nat → Nat) (s : Nat → Int), x + k = gN P → RW P F f → MT P t x 0 f → SW G (j + 2) mX9_laysMirrorsTo 42 [some (vr (49)), some (vi (((t : Nat) : Int))), some (vi (((x : Nat) : Int))), none, none] [] (S nw nx g, 78 + gn, (wr (wr c 71 F) 61 s)) B0 post := by
  have h60 := GV_N hV
  intro k
  induction k with
  | zero =>
    intro x F f s hx hF hT
    have e : x = gN P := by omega
    subst e
    refine g_X9_laysMirrorsTo_42 hM hV hC hF ?_
    refine ⟨?_, ?_, ⟨fun q => ?_, fun q => ?_⟩⟩
    all_goals first | omega | exact K F f s hF hT | (exfalso; omega)
  | succ k ih =>
    intro x F f s hx hF hT
    refine g_X9_laysMirrorsTo_42 hM hV hC hF ?_
    refine ⟨?_, ?_, ⟨fun q => ?_, fun q => ?_⟩⟩
    all_goals first | omega | (exfalso; omega) | exact lm_52 hM hV hC hm ht (by omega) (fun F f s h1 h2 => ih _ F f s (by omega) h1 h2) (gM P) 0 F f s (by omega) hF hT
set_option maxHeartbeats 4000000 in
theorem lm_35 {G : GG} {j nw nx gn : Nat} {g : Nat → Sh} {c : Nat → Nat → Int} {post : Option AV → AM → Prop} {P : GD} (hM : ML c P) (hV : GV P) (hC : GC P) (hm : hMi P) (K : ∀ (F : Nat → Int) (f : Nat → Nat) (s : Nat → Int), RW P F f → (∀ y, y < gN P → f y = gO P y) → post none (S nw nx g, 78 + gn, (wr (wr c 71 F) 61 s))) : ∀ (k t : Nat) (F : Nat → Int) (f : Nat → Nat) (s : Nat → Int), t + k = 5 → RW P F f → MT P t 0 0 f → SW G (j + 2) mX9_laysMirrorsTo 35 [some (vr (49)), some (vi (((t : Nat) : Int))), none, none, none] [] (S nw nx g, 78 + gn, (wr (wr c 71 F) 61 s)) B0 post := by
  intro k
  induction k with
  | zero =>
    intro t F f s ht hF hT
    have e : t = 5 := by omega
    subst e
    refine g_X9_laysMirrorsTo_35 hM hV hC hF ?_
    refine ⟨?_, ⟨fun q => ?_, fun q => ?_⟩⟩
    all_goals first | omega | exact K F f s hF (MT_end hV hT) | (exfalso; omega)
  | succ k ih =>
    intro t F f s ht hF hT
    refine g_X9_laysMirrorsTo_35 hM hV hC hF ?_
    refine ⟨?_, ⟨fun q => ?_, fun q => ?_⟩⟩
    all_goals first | omega | (exfalso; omega) | exact lm_42 hM hV hC hm (by omega) (fun F f s h1 h2 => ih _ F f s (by omega) h1 (MT_nextt hm h2)) (gN P) 0 F f s (by omega) hF hT
def iZ : Nat → Nat → (Nat → Int) → Nat → Int
  | 0, _, F => F
  | k + 1, x, F => iZ k (x + 1) (u1 F x (if x = 0 then 0 else 1000000))
theorem iZ_at : ∀ k x F y, iZ k x F y = if x ≤ y ∧ y < x + k then (if y = 0 then 0 else 1000000) else F y := by
  intro k
  induction k with
  | zero => intro x F y; rw [iZ, if_neg (by omega)]
  | succ k ih =>
    intro x F y
    rw [iZ, ih]
    by_cases h : x + 1 ≤ y ∧ y < x + 1 + k
    · rw [if_pos h, if_pos (show x ≤ y ∧ y < x + (k + 1) by omega)]
    · rw [if_neg h]
      by_cases e : y = x
      · subst e; rw [u1_eq, if_pos (show y ≤ y ∧ y < y + (k + 1) by omega)]
      · rw [u1_ne e, if_neg (by omega)]
set_option maxHeartbeats 4000000 in
theorem lm_2 {G : GG} {j nw nx gn : Nat} {g : Nat → Sh} {c : Nat → Nat → Int} {post : Option AV → AM → Prop} {P : GD} (hM : ML c P) (hV : GV P) (hC : GC P) {s : Nat → Int} : ∀ (k t : Nat) (F : Nat → Int), t + k = gN P → SW G (j + 2) mX9_laysMirrorsTo 35 [some (vr (49)), some (vi (0)), none, none, none] [] (S nw nx g, 78 + gn, (wr (wr c 71 (iZ k t F)) 61 s)) B0 post → SW G (j + 2) mX9_laysMirrorsTo 2 [some (vr (49)), some (vi (((t : Nat) : Int))), none, none, none] [] (S nw nx g, 78 + gn, (wr (wr c 71 F) 61 s)) B0 post := by
  have h60 := GV_N hV
  intro k
  induction k with
  | zero =>
    intro t F ht K
    rw [iZ] at K
    refine g_X9_laysMirrorsTo_2 hM hV hC ?_
    refine ⟨?_, ?_, ⟨fun q => ?_, fun q => ⟨?_, ⟨fun q => ⟨?_, ?_⟩, fun q => ⟨?_, ?_⟩⟩⟩⟩⟩
    all_goals first | omega | exact K | (exfalso; omega)
  | succ k ih =>
    intro t F ht K
    rw [iZ] at K
    refine g_X9_laysMirrorsTo_2 hM hV hC ?_
    refine ⟨?_, ?_, ⟨fun q => ?_, fun q => ⟨?_, ⟨fun q => ⟨?_, ?_⟩, fun q => ⟨?_, ?_⟩⟩⟩⟩⟩
    all_goals first | omega | (exfalso; omega) | (rw [if_pos (by assumption)] at K; exact ih _ _ (by omega) K) | (rw [if_neg (by assumption)] at K; exact ih _ _ (by omega) K)

set_option maxHeartbeats 2000000 in
set_option maxRecDepth 20000 in
theorem g_X9_laysMirrorsTo_0 {G : GG} {j nw nx gn : Nat} {g : Nat → Sh} {c : Nat → Nat → Int} {post : Option AV → AM → Prop}  (hv : SW G (j + 2) mX9_laysMirrorsTo 2 [some (vr (49)), some (vi (0)), none, none, none] [] (S nw nx g, 78 + gn, c) B0 post) :
    SW G (j + 2) mX9_laysMirrorsTo 0 [some (vr (49)), none, none, none, none] [] (S nw nx g, 78 + gn, c) B0 post := by
  refine sw_iconst (dX9_laysMirrorsTo_0.at 0 rfl) ?_
  refine sw_istore_n (lo' := [some (vr (49)), some (vi (0)), none, none, none]) (dX9_laysMirrorsTo_0.at 1 rfl) rfl (by decide) rfl ?_
  exact hv

set_option maxHeartbeats 2000000 in
theorem c_X9_laysMirrorsTo {G : GG} {j nw nx gn : Nat} {g : Nat → Sh} {c : Nat → Nat → Int} {post : Option AV → AM → Prop} {P : GD} (hM : ML c P) (hV : GV P) (hC : GC P) (hm : hMi P) (K : ∀ c2 : Nat → Nat → Int, (SC c c2 ∧ ∀ y, y < gN P → c2 71 y = ((gO P y : Nat) : Int)) → post none (S nw nx g, 78 + gn, c2)) : SM G (j + 3) mX9_laysMirrorsTo [vr (49)] (S nw nx g, 78 + gn, c) 0 0 post := by
  refine sm_of wX9_laysMirrorsTo rfl (Nat.le_of_ble_eq_true rfl) ?_
  refine g_X9_laysMirrorsTo_0 ?_
  have h9 := lm_2 (G := G) (j := j) (nw := nw) (nx := nx) (gn := gn) (g := g) (post := post) (s := c 61) hM hV hC (gN P) 0 (c 71) (by omega) (lm_35 hM hV hC hm (fun F f s h1 h2 => K _ ⟨SC_wr (SC_wr SC_rf (by decide)) (by decide), fun y hy => by rw [wr_off (by decide), wr_at, h1 y hy, h2 y hy]⟩) 5 0 (iZ (gN P) 0 (c 71)) (iM (gN P) 0 (fun _ => 0)) (c 61) (by omega) (fun y hy => by
      have h0 : 0 ≤ y ∧ y < 0 + gN P := by omega
      rw [iZ_at, iM_at, if_pos h0, if_pos h0]
      by_cases e : y = 0
      · rw [if_pos e, if_pos e]; rfl
      · rw [if_neg e, if_neg e]; rfl) (MT_0 hm))
  rw [show wr c 71 (c 71) = c from wr_self c 71, wr_self] at h9
  exact h9

set_option maxHeartbeats 2000000 in
set_option maxRecDepth 20000 in
theorem g_X9_mirrors_0n {G : GG} {j nw nx gn : Nat} {g : Nat → Sh} {c : Nat → Nat → Int} {post : Option AV → AM → Prop} {x : Nat} {P : GD} (hM : ML c P) (hV : GV P) (hC : GC P) (hm : hMi P)  (hv : (-2147483648 ≤ ((x : Nat) : Int) ∧ ((x : Nat) : Int) < 2147483648) ∧ ((((decide (0 ≤ ((x : Nat) : Int) ∧ ((x : Nat) : Int) < (gN P : Int))) = true) → (∀ c_1 : Nat → Nat → Int, (SC c c_1 ∧ ∀ y, y < gN P → c_1 71 y = ((gO P y : Nat) : Int)) → (x < gN P) ∧ (post (some (vi (((gO P x : Nat) : Int)))) (S nw nx g, 78 + gn, c_1)))) ∧ (((decide (0 ≤ ((x : Nat) : Int) ∧ ((x : Nat) : Int) < (gN P : Int))) = false) → post (some (vi ((-2)))) (S nw nx g, 78 + gn, c)))) :
    SW G (j + 3) mX9_mirrors 0 [some (vr (49)), some (vi (((x : Nat) : Int)))] [] (S nw nx g, 78 + gn, c) B0 post := by
  refine sw_aload_n (dX9_mirrors.at 0 rfl) rfl rfl ?_
  refine sw_iload_n (dX9_mirrors.at 1 rfl) rfl rfl ?_
  refine sw_callV (B' := B0) (As := [vi (((x : Nat) : Int))]) (mc := 0) (ms := 0) (dX9_mirrors.at 2 rfl) lk_X9_251 (S_lt 49 (by decide)) (S_49 nw nx g) rfl rfl (Nat.le_of_ble_eq_true rfl) rfl (Nat.le_refl _) (Nat.le_refl _) ?_
  refine c_X9_isElement (x := ((x : Nat) : Int)) (j := j + 1) hM hV hv.1 ?_
  replace hv := hv.2
  refine sw_if_ne (tgt := 11) (dX9_mirrors.at 3 rfl) (by decide) (bz_rng _) (fun q => ?_) (fun q => ?_)
  · replace hv := hv.1 (bz_1 q)
    refine sw_aload_n (dX9_mirrors.at 6 rfl) rfl rfl ?_
    refine sw_callV (B' := B0) (As := []) (mc := 0) (ms := 0) (dX9_mirrors.at 7 rfl) lk_X9_381 (S_lt 49 (by decide)) (S_49 nw nx g) rfl rfl (Nat.le_of_ble_eq_true rfl) rfl (Nat.le_refl _) (Nat.le_refl _) ?_
    refine c_X9_laysMirrorsTo  (j := j + 0) hM hV hC hm (fun c_1 h_1 => ?_)
    replace hv := hv c_1 h_1
    refine sw_aload_n (dX9_mirrors.at 8 rfl) rfl rfl ?_
    refine sw_getR (dX9_mirrors.at 9 rfl) fp_X9_80 (S_lt 49 (by decide)) (S_49 nw nx g) rfl rfl ?_
    refine sw_iload_n (dX9_mirrors.at 10 rfl) rfl rfl ?_
    refine sw_ialdN x (w := ((gO P x : Nat) : Int)) (dX9_mirrors.at 11 rfl) (S_lt 71 (by decide)) (S_71 nw nx g) (by decide) (GV_lt hV hv.1) (h_1.2 _ hv.1) ?_
    replace hv := hv.2
    exact sw_iret (dX9_mirrors.at 12 rfl) rfl (Nat.le_refl _) (Nat.le_refl _) hv
  · replace hv := hv.2 (bz_n1 q)
    refine sw_bipush (dX9_mirrors.at 4 rfl) (by decide) ?_
    exact sw_iret (dX9_mirrors.at 5 rfl) rfl (Nat.le_refl _) (Nat.le_refl _) hv

set_option maxHeartbeats 2000000 in
set_option maxRecDepth 20000 in
theorem g_X9_mirrors_0 {G : GG} {j nw nx gn : Nat} {g : Nat → Sh} {c : Nat → Nat → Int} {post : Option AV → AM → Prop} {x : Int} {P : GD} (hM : ML c P) (hV : GV P) (hC : GC P) (hm : hMi P)  (hv : (-2147483648 ≤ x ∧ x < 2147483648) ∧ ((((decide (0 ≤ x ∧ x < (gN P : Int))) = true) → (∀ c_1 : Nat → Nat → Int, (SC c c_1 ∧ ∀ y, y < gN P → c_1 71 y = ((gO P y : Nat) : Int)) → SW G (j + 3) mX9_mirrors 20 [some (vr (49)), some (vi (x))] [vi (x), vr (71)] (S nw nx g, 78 + gn, c_1) B0 post)) ∧ (((decide (0 ≤ x ∧ x < (gN P : Int))) = false) → post (some (vi ((-2)))) (S nw nx g, 78 + gn, c)))) :
    SW G (j + 3) mX9_mirrors 0 [some (vr (49)), some (vi (x))] [] (S nw nx g, 78 + gn, c) B0 post := by
  refine sw_aload_n (dX9_mirrors.at 0 rfl) rfl rfl ?_
  refine sw_iload_n (dX9_mirrors.at 1 rfl) rfl rfl ?_
  refine sw_callV (B' := B0) (As := [vi (x)]) (mc := 0) (ms := 0) (dX9_mirrors.at 2 rfl) lk_X9_251 (S_lt 49 (by decide)) (S_49 nw nx g) rfl rfl (Nat.le_of_ble_eq_true rfl) rfl (Nat.le_refl _) (Nat.le_refl _) ?_
  refine c_X9_isElement (x := x) (j := j + 1) hM hV hv.1 ?_
  replace hv := hv.2
  refine sw_if_ne (tgt := 11) (dX9_mirrors.at 3 rfl) (by decide) (bz_rng _) (fun q => ?_) (fun q => ?_)
  · replace hv := hv.1 (bz_1 q)
    refine sw_aload_n (dX9_mirrors.at 6 rfl) rfl rfl ?_
    refine sw_callV (B' := B0) (As := []) (mc := 0) (ms := 0) (dX9_mirrors.at 7 rfl) lk_X9_381 (S_lt 49 (by decide)) (S_49 nw nx g) rfl rfl (Nat.le_of_ble_eq_true rfl) rfl (Nat.le_refl _) (Nat.le_refl _) ?_
    refine c_X9_laysMirrorsTo  (j := j + 0) hM hV hC hm (fun c_1 h_1 => ?_)
    replace hv := hv c_1 h_1
    refine sw_aload_n (dX9_mirrors.at 8 rfl) rfl rfl ?_
    refine sw_getR (dX9_mirrors.at 9 rfl) fp_X9_80 (S_lt 49 (by decide)) (S_49 nw nx g) rfl rfl ?_
    refine sw_iload_n (dX9_mirrors.at 10 rfl) rfl rfl ?_
    exact hv
  · replace hv := hv.2 (bz_n1 q)
    refine sw_bipush (dX9_mirrors.at 4 rfl) (by decide) ?_
    exact sw_iret (dX9_mirrors.at 5 rfl) rfl (Nat.le_refl _) (Nat.le_refl _) hv

set_option maxHeartbeats 4000000 in
theorem c_X9_mirrors {G : GG} {j nw nx gn : Nat} {g : Nat → Sh} {c : Nat → Nat → Int} {post : Option AV → AM → Prop} {P : GD} {x : Int} (hM : ML c P) (hV : GV P) (hC : GC P) (hm : hMi P) (p1 : -2147483648 ≤ x ∧ x < 2147483648) (K : ∀ c2 : Nat → Nat → Int, SC c c2 → post (some (vi (q_mirrors P x))) (S nw nx g, 78 + gn, c2)) : SM G (j + 4) mX9_mirrors [vr (49), vi (x)] (S nw nx g, 78 + gn, c) 0 0 post := by
  refine sm_of wX9_mirrors rfl (Nat.le_of_ble_eq_true rfl) ?_
  have hN60 := GV_N hV
  have hR5 := GV_R hV
  by_cases hv : (0 ≤ x ∧ x < (gN P : Int))
  · obtain ⟨x, rfl⟩ : ∃ n : Nat, x = (n : Int) := ⟨x.toNat, by omega⟩
    have e : q_mirrors P ((x : Nat) : Int) = ((gO P x : Nat) : Int) := by
      rw [q_mirrors, if_pos hv]
      simp only [Int.toNat_natCast]
    rw [e] at K
    have K1 : ∀ (z : Int) (c2 : Nat → Nat → Int), (SC c c2) → z = (((gO P x : Nat) : Int)) → post (some (vi z)) (S nw nx g, 78 + gn, c2) := fun z c2 h e9 => e9 ▸ K c2 h
    refine g_X9_mirrors_0n hM hV hC hm ?_
    refine ⟨?_, ⟨fun q => fun c_1 h_1 => ⟨?_, ?_⟩, fun q => ?_⟩⟩
    all_goals first | omega | assumption | (exfalso; simp only [decide_eq_true_eq, decide_eq_false_iff_not] at *; omega) | exact K _ h_1.1 | exact K _ (by first | exact SC_rf | assumption | (refine SC_tr ?_ (by assumption); first | assumption | (refine SC_tr ?_ (by assumption); first | assumption | (refine SC_tr ?_ (by assumption); assumption)))) | (refine K1 _ _ (by first | exact SC_rf | assumption | (refine SC_tr ?_ (by assumption); first | assumption | (refine SC_tr ?_ (by assumption); first | assumption | (refine SC_tr ?_ (by assumption); assumption)))) ?_; first | rfl | (simp [bz, *]; done) | (split <;> first | rfl | omega))
  · have e : q_mirrors P x = (-2) := by rw [q_mirrors, if_neg hv]
    rw [e] at K
    have K1 : ∀ (z : Int) (c2 : Nat → Nat → Int), (SC c c2) → z = ((-2)) → post (some (vi z)) (S nw nx g, 78 + gn, c2) := fun z c2 h e9 => e9 ▸ K c2 h
    refine g_X9_mirrors_0 hM hV hC hm ?_
    refine ⟨?_, ⟨fun q => fun c_1 h_1 => ?_, fun q => ?_⟩⟩
    all_goals first | omega | assumption | (exfalso; simp only [decide_eq_true_eq, decide_eq_false_iff_not] at *; omega) | exact K _ (by first | exact SC_rf | assumption | (refine SC_tr ?_ (by assumption); first | assumption | (refine SC_tr ?_ (by assumption); first | assumption | (refine SC_tr ?_ (by assumption); assumption)))) | (refine K1 _ _ (by first | exact SC_rf | assumption | (refine SC_tr ?_ (by assumption); first | assumption | (refine SC_tr ?_ (by assumption); first | assumption | (refine SC_tr ?_ (by assumption); assumption)))) ?_; first | rfl | (simp [bz, *]; done) | (split <;> first | rfl | omega))

set_option maxHeartbeats 2000000 in
set_option maxRecDepth 20000 in
theorem g_X9_mirror_17 {G : GG} {j nw nx gn : Nat} {g : Nat → Sh} {c : Nat → Nat → Int} {post : Option AV → AM → Prop} {x : Nat} {P : GD} {z : Nat} {s : Nat → Int} (hM : ML c P) (hV : GV P) (hC : GC P) (hG : ∀ y, y < gN P → c 71 y = ((gO P y : Nat) : Int))  (hv : (z < 2147483648) ∧ (gM P < 2147483648) ∧ (((gM P ≤ z) → post (some (vi ((-1)))) (S nw nx g, 78 + gn, (wr c 61 s))) ∧ ((¬ (gM P ≤ z)) → (z < gM P) ∧ (((gT P z) < gN P) ∧ (x < gN P) ∧ (∀ s_1 : Nat → Int, True → (gX P (gT P z) x < gN P) ∧ ((x < gN P) ∧ ((gO P (gX P (gT P z) x) < 2147483648) ∧ (gO P x < 2147483648) ∧ (((gO P x ≤ gO P (gX P (gT P z) x)) → SW G (j + 3) mX9_mirror 17 [some (vr (49)), some (vi (((x : Nat) : Int))), some (vi (((z + 1 : Nat) : Int)))] [] (S nw nx g, 78 + gn, (wr c 61 s_1)) B0 post) ∧ ((¬ (gO P x ≤ gO P (gX P (gT P z) x))) → post (some (vi (((z : Nat) : Int)))) (S nw nx g, 78 + gn, (wr c 61 s_1))))))))))) :
    SW G (j + 3) mX9_mirror 17 [some (vr (49)), some (vi (((x : Nat) : Int))), some (vi (((z : Nat) : Int)))] [] (S nw nx g, 78 + gn, (wr c 61 s)) B0 post := by
  refine sw_iload_n (dX9_mirror.at 10 rfl) rfl rfl ?_
  refine sw_aload_n (dX9_mirror.at 11 rfl) rfl rfl ?_
  refine sw_getIE (w := ((gM P : Nat) : Int)) (dX9_mirror.at 12 rfl) fp_X9_215 (S_lt 49 (by decide)) (S_49 nw nx g) rfl ((wr_off (c := c) (a := 61) (f := s) (i := 49) (k := 21) (by decide)).trans hM.1.2.2.1) ?_
  refine sw_icmpN_ge z (gM P) (tgt := 58) (dX9_mirror.at 13 rfl) (by decide) hv.1 hv.2.1 (fun q => ?_) (fun q => ?_)
  · replace hv := hv.2.2.1 q
    refine sw_iconst (dX9_mirror.at 33 rfl) ?_
    exact sw_iret (dX9_mirror.at 34 rfl) rfl (Nat.le_refl _) (Nat.le_refl _) hv
  · replace hv := hv.2.2.2 q
    refine sw_aload_n (dX9_mirror.at 14 rfl) rfl rfl ?_
    refine sw_getR (dX9_mirror.at 15 rfl) fp_X9_80 (S_lt 49 (by decide)) (S_49 nw nx g) rfl rfl ?_
    refine sw_aload_n (dX9_mirror.at 16 rfl) rfl rfl ?_
    refine sw_aload_n (dX9_mirror.at 17 rfl) rfl rfl ?_
    refine sw_getR (dX9_mirror.at 18 rfl) fp_X9_44 (S_lt 49 (by decide)) (S_49 nw nx g) rfl rfl ?_
    refine sw_iload_n (dX9_mirror.at 19 rfl) rfl rfl ?_
    refine sw_ialdN z (w := ((gT P z : Nat) : Int)) (dX9_mirror.at 20 rfl) (S_lt 60 (by decide)) (S_60 nw nx g) (by decide) (GV_ltM hV hv.1) (ML_T (ML_SC hM (SC_wr SC_rf (a := 61) (f := s) (by decide))) hv.1) ?_
    replace hv := hv.2
    refine sw_iload_n (dX9_mirror.at 21 rfl) rfl rfl ?_
    refine sw_callV (B' := B0) (As := [vi (((gT P z : Nat) : Int)), vi (((x : Nat) : Int))]) (mc := 0) (ms := 0) (dX9_mirror.at 22 rfl) lk_X9_237 (S_lt 49 (by decide)) (S_49 nw nx g) rfl rfl (Nat.le_of_ble_eq_true rfl) rfl (Nat.le_refl _) (Nat.le_refl _) ?_
    refine c_X9_productV (c := c) (s := s) (x := (gT P z)) (y := x) (j := j + 1) hM hV hC hv.1 hv.2.1 (fun s_1 h_1 => ?_)
    replace hv := hv.2.2 s_1 h_1
    refine sw_ialdN (gX P (gT P z) x) (w := ((gO P (gX P (gT P z) x) : Nat) : Int)) (dX9_mirror.at 23 rfl) (S_lt 71 (by decide)) (S_71 nw nx g) (by decide) (GV_lt hV hv.1) (hG _ hv.1) ?_
    replace hv := hv.2
    refine sw_aload_n (dX9_mirror.at 24 rfl) rfl rfl ?_
    refine sw_getR (dX9_mirror.at 25 rfl) fp_X9_80 (S_lt 49 (by decide)) (S_49 nw nx g) rfl rfl ?_
    refine sw_iload_n (dX9_mirror.at 26 rfl) rfl rfl ?_
    refine sw_ialdN x (w := ((gO P x : Nat) : Int)) (dX9_mirror.at 27 rfl) (S_lt 71 (by decide)) (S_71 nw nx g) (by decide) (GV_lt hV hv.1) (hG _ hv.1) ?_
    replace hv := hv.2
    refine sw_icmpN_ge (gO P (gX P (gT P z) x)) (gO P x) (tgt := 52) (dX9_mirror.at 28 rfl) (by decide) hv.1 hv.2.1 (fun q => ?_) (fun q => ?_)
    · replace hv := hv.2.2.1 q
      refine sw_iinc (lo' := [some (vr (49)), some (vi (((x : Nat) : Int))), some (vi (((z + 1 : Nat) : Int)))]) (dX9_mirror.at 31 rfl) rfl (by decide) rfl ?_
      refine sw_goto (tgt := 17) (dX9_mirror.at 32 rfl) (by decide) ?_
      exact hv
    · replace hv := hv.2.2.2 q
      refine sw_iload_n (dX9_mirror.at 29 rfl) rfl rfl ?_
      exact sw_iret (dX9_mirror.at 30 rfl) rfl (Nat.le_refl _) (Nat.le_refl _) hv

set_option maxHeartbeats 4000000 in
theorem lp_X9_mirror_17 {G : GG} {j nw nx gn : Nat} {g : Nat → Sh} {c : Nat → Nat → Int} {post : Option AV → AM → Prop} {P : GD} {x : Nat} (hM : ML c P) (hV : GV P) (hC : GC P) (hG : ∀ y, y < gN P → c 71 y = ((gO P y : Nat) : Int)) (hx : x < gN P) : ∀ (k z : Nat) (s : Nat → Int), z + k = gM P → (∀ s, post (some (vi (firstF (pMi P x) k z))) (S nw nx g, 78 + gn, (wr c 61 s))) → SW G (j + 3) mX9_mirror 17 [some (vr (49)), some (vi (((x : Nat) : Int))), some (vi (((z : Nat) : Int)))] [] (S nw nx g, 78 + gn, (wr c 61 s)) B0 post := by
  have h60 := GV_N hV
  have hm := hV.1.2.2.1
  have f0 := (hV.2.2.1 x hx).2.2.2.2.2.2.1
  intro k
  induction k with
  | zero =>
    intro z s hz K
    rw [firstF] at K
    refine g_X9_mirror_17 hM hV hC hG ?_
    refine ⟨?_, ?_, ⟨fun q => ?_, fun q => ⟨?_, ⟨?_, ?_, fun s_1 h_1 => ⟨?_, ⟨?_, ⟨?_, ?_, ⟨fun q => ?_, fun q => ?_⟩⟩⟩⟩⟩⟩⟩⟩
    all_goals first | omega | exact K _ | (exfalso; omega)
  | succ k ih =>
    intro z s hz K
    have f1 := hV.2.2.2.2.2 z (by omega)
    have f2 := hV.2.2.2.2.1 (gT P z) x f1 hx
    have f3 := (hV.2.2.1 _ f2).2.2.2.2.2.2.1
    simp only [firstF, pMi] at K
    refine g_X9_mirror_17 hM hV hC hG ?_
    refine ⟨?_, ?_, ⟨fun q => ?_, fun q => ⟨?_, ⟨?_, ?_, fun s_1 h_1 => ⟨?_, ⟨?_, ⟨?_, ?_, ⟨fun q => ?_, fun q => ?_⟩⟩⟩⟩⟩⟩⟩⟩
    all_goals first | omega | assumption | (exfalso; omega) | (have h9 : gO P (gX P (gT P z) x) < gO P x := (by omega); simp only [h9, decide_true, if_true] at K; exact K _) | (have h9 : ¬ (gO P (gX P (gT P z) x) < gO P x) := (by omega); simp only [h9, decide_false, Bool.false_eq_true, if_false] at K; exact ih _ _ (by omega) K)

set_option maxHeartbeats 2000000 in
set_option maxRecDepth 20000 in
theorem g_X9_mirror_0n {G : GG} {j nw nx gn : Nat} {g : Nat → Sh} {c : Nat → Nat → Int} {post : Option AV → AM → Prop} {x : Nat} {P : GD} (hM : ML c P) (hV : GV P) (hC : GC P) (hm : hMi P)  (hv : (-2147483648 ≤ ((x : Nat) : Int) ∧ ((x : Nat) : Int) < 2147483648) ∧ ((((decide (0 ≤ ((x : Nat) : Int) ∧ ((x : Nat) : Int) < (gN P : Int))) = true) → (∀ c_1 : Nat → Nat → Int, (SC c c_1 ∧ ∀ y, y < gN P → c_1 71 y = ((gO P y : Nat) : Int)) → SW G (j + 3) mX9_mirror 17 [some (vr (49)), some (vi (((x : Nat) : Int))), some (vi (0))] [] (S nw nx g, 78 + gn, c_1) B0 post)) ∧ (((decide (0 ≤ ((x : Nat) : Int) ∧ ((x : Nat) : Int) < (gN P : Int))) = false) → post (some (vi ((-2)))) (S nw nx g, 78 + gn, c)))) :
    SW G (j + 3) mX9_mirror 0 [some (vr (49)), some (vi (((x : Nat) : Int))), none] [] (S nw nx g, 78 + gn, c) B0 post := by
  refine sw_aload_n (dX9_mirror.at 0 rfl) rfl rfl ?_
  refine sw_iload_n (dX9_mirror.at 1 rfl) rfl rfl ?_
  refine sw_callV (B' := B0) (As := [vi (((x : Nat) : Int))]) (mc := 0) (ms := 0) (dX9_mirror.at 2 rfl) lk_X9_251 (S_lt 49 (by decide)) (S_49 nw nx g) rfl rfl (Nat.le_of_ble_eq_true rfl) rfl (Nat.le_refl _) (Nat.le_refl _) ?_
  refine c_X9_isElement (x := ((x : Nat) : Int)) (j := j + 1) hM hV hv.1 ?_
  replace hv := hv.2
  refine sw_if_ne (tgt := 11) (dX9_mirror.at 3 rfl) (by decide) (bz_rng _) (fun q => ?_) (fun q => ?_)
  · replace hv := hv.1 (bz_1 q)
    refine sw_aload_n (dX9_mirror.at 6 rfl) rfl rfl ?_
    refine sw_callV (B' := B0) (As := []) (mc := 0) (ms := 0) (dX9_mirror.at 7 rfl) lk_X9_381 (S_lt 49 (by decide)) (S_49 nw nx g) rfl rfl (Nat.le_of_ble_eq_true rfl) rfl (Nat.le_refl _) (Nat.le_refl _) ?_
    refine c_X9_laysMirrorsTo  (j := j + 0) hM hV hC hm (fun c_1 h_1 => ?_)
    replace hv := hv c_1 h_1
    refine sw_iconst (dX9_mirror.at 8 rfl) ?_
    refine sw_istore_n (lo' := [some (vr (49)), some (vi (((x : Nat) : Int))), some (vi (0))]) (dX9_mirror.at 9 rfl) rfl (by decide) rfl ?_
    exact hv
  · replace hv := hv.2 (bz_n1 q)
    refine sw_bipush (dX9_mirror.at 4 rfl) (by decide) ?_
    exact sw_iret (dX9_mirror.at 5 rfl) rfl (Nat.le_refl _) (Nat.le_refl _) hv

set_option maxHeartbeats 2000000 in
set_option maxRecDepth 20000 in
theorem g_X9_mirror_0 {G : GG} {j nw nx gn : Nat} {g : Nat → Sh} {c : Nat → Nat → Int} {post : Option AV → AM → Prop} {x : Int} {P : GD} (hM : ML c P) (hV : GV P) (hC : GC P) (hm : hMi P)  (hv : (-2147483648 ≤ x ∧ x < 2147483648) ∧ ((((decide (0 ≤ x ∧ x < (gN P : Int))) = true) → (∀ c_1 : Nat → Nat → Int, (SC c c_1 ∧ ∀ y, y < gN P → c_1 71 y = ((gO P y : Nat) : Int)) → SW G (j + 3) mX9_mirror 17 [some (vr (49)), some (vi (x)), some (vi (0))] [] (S nw nx g, 78 + gn, c_1) B0 post)) ∧ (((decide (0 ≤ x ∧ x < (gN P : Int))) = false) → post (some (vi ((-2)))) (S nw nx g, 78 + gn, c)))) :
    SW G (j + 3) mX9_mirror 0 [some (vr (49)), some (vi (x)), none] [] (S nw nx g, 78 + gn, c) B0 post := by
  refine sw_aload_n (dX9_mirror.at 0 rfl) rfl rfl ?_
  refine sw_iload_n (dX9_mirror.at 1 rfl) rfl rfl ?_
  refine sw_callV (B' := B0) (As := [vi (x)]) (mc := 0) (ms := 0) (dX9_mirror.at 2 rfl) lk_X9_251 (S_lt 49 (by decide)) (S_49 nw nx g) rfl rfl (Nat.le_of_ble_eq_true rfl) rfl (Nat.le_refl _) (Nat.le_refl _) ?_
  refine c_X9_isElement (x := x) (j := j + 1) hM hV hv.1 ?_
  replace hv := hv.2
  refine sw_if_ne (tgt := 11) (dX9_mirror.at 3 rfl) (by decide) (bz_rng _) (fun q => ?_) (fun q => ?_)
  · replace hv := hv.1 (bz_1 q)
    refine sw_aload_n (dX9_mirror.at 6 rfl) rfl rfl ?_
    refine sw_callV (B' := B0) (As := []) (mc := 0) (ms := 0) (dX9_mirror.at 7 rfl) lk_X9_381 (S_lt 49 (by decide)) (S_49 nw nx g) rfl rfl (Nat.le_of_ble_eq_true rfl) rfl (Nat.le_refl _) (Nat.le_refl _) ?_
    refine c_X9_laysMirrorsTo  (j := j + 0) hM hV hC hm (fun c_1 h_1 => ?_)
    replace hv := hv c_1 h_1
    refine sw_iconst (dX9_mirror.at 8 rfl) ?_
    refine sw_istore_n (lo' := [some (vr (49)), some (vi (x)), some (vi (0))]) (dX9_mirror.at 9 rfl) rfl (by decide) rfl ?_
    exact hv
  · replace hv := hv.2 (bz_n1 q)
    refine sw_bipush (dX9_mirror.at 4 rfl) (by decide) ?_
    exact sw_iret (dX9_mirror.at 5 rfl) rfl (Nat.le_refl _) (Nat.le_refl _) hv

set_option maxHeartbeats 4000000 in
theorem c_X9_mirror {G : GG} {j nw nx gn : Nat} {g : Nat → Sh} {c : Nat → Nat → Int} {post : Option AV → AM → Prop} {P : GD} {x : Int} (hM : ML c P) (hV : GV P) (hC : GC P) (hm : hMi P) (p1 : -2147483648 ≤ x ∧ x < 2147483648) (K : ∀ c2 : Nat → Nat → Int, SC c c2 → post (some (vi (q_mirror P x))) (S nw nx g, 78 + gn, c2)) : SM G (j + 4) mX9_mirror [vr (49), vi (x)] (S nw nx g, 78 + gn, c) 0 0 post := by
  refine sm_of wX9_mirror rfl (Nat.le_of_ble_eq_true rfl) ?_
  have hN60 := GV_N hV
  have hR5 := GV_R hV
  by_cases hv : 0 ≤ x ∧ x < (gN P : Int)
  · obtain ⟨x, rfl⟩ : ∃ n : Nat, x = (n : Int) := ⟨x.toNat, by omega⟩
    have e : q_mirror P ((x : Nat) : Int) = firstF (pMi P x) (gM P) 0 := by
      rw [q_mirror, if_pos hv]
      simp only [Int.toNat_natCast]
    rw [e] at K
    have K1 : ∀ (z : Int) (c2 : Nat → Nat → Int), (SC c c2) → z = (firstF (pMi P x) (gM P) 0) → post (some (vi z)) (S nw nx g, 78 + gn, c2) := fun z c2 h e9 => e9 ▸ K c2 h
    have hx : x < gN P := by omega
    have fx := hV.2.2.1 x hx
    refine g_X9_mirror_0n hM hV hC hm ?_
    refine ⟨?_, ⟨fun q => fun c_1 h_1 => ?_, fun q => ?_⟩⟩
    all_goals first | omega | assumption | (exfalso; simp only [decide_eq_true_eq, decide_eq_false_iff_not] at *; omega) | (have l9 := lp_X9_mirror_17 (c := c_1) (G := G) (j := j) (nw := nw) (nx := nx) (gn := gn) (g := g) (post := post) (ML_SC hM h_1.1) hV hC h_1.2 hx (gM P) 0 (c_1 61) (by omega) (fun s => K _ (SC_wr h_1.1 (by decide))); rw [wr_self] at l9; exact l9) | exact K _ (by first | exact SC_rf | assumption | (refine SC_tr ?_ (by assumption); first | assumption | (refine SC_tr ?_ (by assumption); first | assumption | (refine SC_tr ?_ (by assumption); assumption)))) | (refine K1 _ _ (by first | exact SC_rf | assumption | (refine SC_tr ?_ (by assumption); first | assumption | (refine SC_tr ?_ (by assumption); first | assumption | (refine SC_tr ?_ (by assumption); assumption)))) ?_; first | rfl | (simp [bz, *]; done) | (split <;> first | rfl | omega))
  · have e : q_mirror P x = (-2) := by rw [q_mirror, if_neg hv]
    rw [e] at K
    have K1 : ∀ (z : Int) (c2 : Nat → Nat → Int), (SC c c2) → z = ((-2)) → post (some (vi z)) (S nw nx g, 78 + gn, c2) := fun z c2 h e9 => e9 ▸ K c2 h
    refine g_X9_mirror_0 hM hV hC hm ?_
    refine ⟨?_, ⟨fun q => fun c_1 h_1 => ?_, fun q => ?_⟩⟩
    all_goals first | omega | assumption | (exfalso; simp only [decide_eq_true_eq, decide_eq_false_iff_not] at *; omega) | exact K _ (by first | exact SC_rf | assumption | (refine SC_tr ?_ (by assumption); first | assumption | (refine SC_tr ?_ (by assumption); first | assumption | (refine SC_tr ?_ (by assumption); assumption)))) | (refine K1 _ _ (by first | exact SC_rf | assumption | (refine SC_tr ?_ (by assumption); first | assumption | (refine SC_tr ?_ (by assumption); first | assumption | (refine SC_tr ?_ (by assumption); assumption)))) ?_; first | rfl | (simp [bz, *]; done) | (split <;> first | rfl | omega))

