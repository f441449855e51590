def mtA (P : GD) (T : PT) : Nat → Nat → Int → Int
  | 0, _, a => a
  | k + 1, z, a => mtA P T k (z + 1) (if z / 7 / 60 < gN P ∧ z / 7 % 60 < gN P then mxI a (T (z / 7 / 60) (z / 7 % 60) (z % 7)) else a)
theorem mxI_le (a b : Int) : a ≤ mxI a b ∧ b ≤ mxI a b ∧ (mxI a b = a ∨ mxI a b = b) := by
  rw [mxI]; split
  · exact ⟨by omega, by omega, Or.inr rfl⟩
  · exact ⟨by omega, by omega, Or.inl rfl⟩
theorem mtA_ch {P : GD} {T : PT} : ∀ k z a, a ≤ mtA P T k z a ∧ (∀ q, z ≤ q → q < z + k → q / 7 / 60 < gN P → q / 7 % 60 < gN P → T (q / 7 / 60) (q / 7 % 60) (q % 7) ≤ mtA P T k z a) ∧ (mtA P T k z a = a ∨ ∃ v w i, v < gN P ∧ w < gN P ∧ i < 7 ∧ mtA P T k z a = T v w i) := by
  intro k
  induction k with
  | zero => intro z a; exact ⟨Int.le_refl _, fun q h1 h2 _ _ => by omega, Or.inl rfl⟩
  | succ k ih =>
    intro z a
    rw [mtA]
    by_cases h : z / 7 / 60 < gN P ∧ z / 7 % 60 < gN P
    · rw [if_pos h]
      obtain ⟨i1, i2, i3⟩ := ih (z + 1) (mxI a (T (z / 7 / 60) (z / 7 % 60) (z % 7)))
      obtain ⟨m1, m2, m3⟩ := mxI_le a (T (z / 7 / 60) (z / 7 % 60) (z % 7))
      refine ⟨by omega, fun q h1 h2 h3 h4 => ?_, ?_⟩
      · by_cases e : q = z
        · rw [e]; omega
        · exact i2 q (by omega) (by omega) h3 h4
      · rcases i3 with i3 | i3
        · rcases m3 with m3 | m3
          · left; omega
          · right; exact ⟨_, _, z % 7, h.1, h.2, by omega, by omega⟩
        · exact Or.inr i3
    · rw [if_neg h]
      obtain ⟨i1, i2, i3⟩ := ih (z + 1) a
      refine ⟨i1, fun q h1 h2 h3 h4 => ?_, i3⟩
      by_cases e : q = z
      · rw [e] at h3 h4; exact absurd ⟨h3, h4⟩ h
      · exact i2 q (by omega) (by omega) h3 h4
theorem mx3_ch {f : Nat → Int} {p : Nat} : ∀ k z a, a ≤ mx3 f p k z a ∧ (∀ i, z ≤ i → i < z + k → f (p + i) ≤ mx3 f p k z a) ∧ (mx3 f p k z a = a ∨ ∃ i, z ≤ i ∧ i < z + k ∧ mx3 f p k z a = f (p + i)) := by
  intro k
  induction k with
  | zero => intro z a; exact ⟨Int.le_refl _, fun q h1 h2 => by omega, Or.inl rfl⟩
  | succ k ih =>
    intro z a
    rw [mx3]
    obtain ⟨i1, i2, i3⟩ := ih (z + 1) (mxI a (f (p + z)))
    obtain ⟨m1, m2, m3⟩ := mxI_le a (f (p + z))
    refine ⟨by omega, fun i h1 h2 => ?_, ?_⟩
    · by_cases e : i = z
      · rw [e]; omega
      · exact i2 i (by omega) (by omega)
    · rcases i3 with i3 | ⟨i, h1, h2, h3⟩
      · rcases m3 with m3 | m3
        · left; omega
        · right; exact ⟨z, by omega, by omega, by omega⟩
      · exact Or.inr ⟨i, by omega, by omega, h3⟩
theorem mx2_ch {f : Nat → Int} {v : Nat} : ∀ k w a, a ≤ mx2 f v k w a ∧ (∀ b i, w ≤ b → b < w + k → i < 8 → f ((v * 60 + b) * 8 + i) ≤ mx2 f v k w a) ∧ (mx2 f v k w a = a ∨ ∃ b i, w ≤ b ∧ b < w + k ∧ i < 8 ∧ mx2 f v k w a = f ((v * 60 + b) * 8 + i)) := by
  intro k
  induction k with
  | zero => intro z a; exact ⟨Int.le_refl _, fun b i h1 h2 => by omega, Or.inl rfl⟩
  | succ k ih =>
    intro w a
    rw [mx2]
    obtain ⟨i1, i2, i3⟩ := ih (w + 1) (mx3 f ((v * 60 + w) * 8) 8 0 a)
    obtain ⟨m1, m2, m3⟩ := mx3_ch (f := f) (p := (v * 60 + w) * 8) 8 0 a
    refine ⟨by omega, fun b i h1 h2 h3 => ?_, ?_⟩
    · by_cases e : b = w
      · rw [e]; have := m2 i (by omega) (by omega); omega
      · exact i2 b i (by omega) (by omega) h3
    · rcases i3 with i3 | ⟨b, i, h1, h2, h3, h4⟩
      · rcases m3 with m3 | ⟨i, h1, h2, h3⟩
        · left; omega
        · right; exact ⟨w, i, by omega, by omega, by omega, by omega⟩
      · exact Or.inr ⟨b, i, by omega, by omega, h3, h4⟩
theorem mx1_ch {f : Nat → Int} {n : Nat} : ∀ k v a, v + k ≤ n → a ≤ mx1 f n k v a ∧ (∀ q b i, v ≤ q → q < v + k → q ≤ b → b < n → i < 8 → f ((q * 60 + b) * 8 + i) ≤ mx1 f n k v a) ∧ (mx1 f n k v a = a ∨ ∃ q b i, q < n ∧ b < n ∧ i < 8 ∧ mx1 f n k v a = f ((q * 60 + b) * 8 + i)) := by
  intro k
  induction k with
  | zero => intro v a _; exact ⟨Int.le_refl _, fun q b i h1 h2 => by omega, Or.inl rfl⟩
  | succ k ih =>
    intro v a hv
    rw [mx1]
    obtain ⟨i1, i2, i3⟩ := ih (v + 1) (mx2 f v (n - v) v a) (by omega)
    obtain ⟨m1, m2, m3⟩ := mx2_ch (f := f) (v := v) (n - v) v a
    refine ⟨by omega, fun q b i h1 h2 h3 h4 h5 => ?_, ?_⟩
    · by_cases e : q = v
      · rw [e] at h3 ⊢; have := m2 b i h3 (by omega) h5; omega
      · exact i2 q b i (by omega) (by omega) h3 h4 h5
    · rcases i3 with i3 | i3
      · rcases m3 with m3 | ⟨b, i, h1, h2, h3, h4⟩
        · left; omega
        · right; exact ⟨v, b, i, by omega, by omega, h3, by omega⟩
      · exact Or.inr i3
theorem mt_eq {P : GD} {T : PT} (hV : GV P) (hG : GP P T) (hT : HT P T) : mtA P T 25200 0 0 = mx1 (fT T) (gN P) (gN P) 0 0 := by
  have h60 := GV_N hV
  obtain ⟨a1, a2, a3⟩ := mtA_ch (P := P) (T := T) 25200 0 0
  obtain ⟨b1, b2, b3⟩ := mx1_ch (f := fT T) (n := gN P) (gN P) 0 0 (by omega)
  have fe : ∀ v w i, v < gN P → w < gN P → i < 8 → fT T ((v * 60 + w) * 8 + i) = T v w i := by
    intro v w i hv hw hi
    rw [fT, show ((v * 60 + w) * 8 + i) / 480 = v by omega, show ((v * 60 + w) * 8 + i) / 8 % 60 = w by omega, show ((v * 60 + w) * 8 + i) % 8 = i by omega]
  apply Int.le_antisymm
  · rcases a3 with a3 | ⟨v, w, i, h1, h2, h3, h4⟩
    · omega
    · rw [h4]
      by_cases e : v ≤ w
      · have := b2 v w i (by omega) (by omega) e h2 (by omega)
        rw [fe v w i h1 h2 (by omega)] at this
        exact this
      · have p9 := hG.2.2 v w h1 h2
        have : T v w i = 0 := by
          cases hb : (gD P w).testBit v with
          | false => exact p9.2.1 i (by omega) (by omega) hb
          | true => have := (p9.2.2.1 (by omega) hb).2; omega
        omega
  · rcases b3 with b3 | ⟨v, w, i, h1, h2, h3, h4⟩
    · omega
    · rw [h4, fe v w i h1 h2 h3]
      by_cases e : i = 7
      · rw [e, T_7 hV hG h1 h2]; omega
      · have := a2 ((v * 60 + w) * 7 + i) (by omega) (by omega)
        rw [show ((v * 60 + w) * 7 + i) / 7 / 60 = v by omega, show ((v * 60 + w) * 7 + i) / 7 % 60 = w by omega, show ((v * 60 + w) * 7 + i) % 7 = i by omega] at this
        exact this h1 h2
theorem PD_66 {P : GD} {T : PT} {c : Nat → Nat → Int} (hD : PD P T c) {z : Nat} (h1 : z / 7 / 60 < gN P) (h2 : z / 7 % 60 < gN P) : c 66 z = T (z / 7 / 60) (z / 7 % 60) (z % 7) := by
  have := hD.2.2 (z / 7 / 60) (z / 7 % 60) (z % 7) h1 h2 (by omega)
  rwa [show (60 * (z / 7 / 60) + z / 7 % 60) * 7 + z % 7 = z by omega] at this
set_option maxHeartbeats 2000000 in
set_option maxRecDepth 20000 in
theorem g_X9_tallest_18 {G : GG} {j nw nx gn : Nat} {g : Nat → Sh} {c : Nat → Nat → Int} {post : Option AV → AM → Prop} {P : GD} {T : PT} {z : Nat} {a : Int} (hM : ML c P) (hV : GV P) (hC : GC P) (hD : PD P T c) (hT : HT P T)  (hv : (z < 2147483648) ∧ (((25200 ≤ z) → post (some (vi (a))) (S nw nx g, 78 + gn, c)) ∧ ((¬ (25200 ≤ z)) → (z < 2147483648) ∧ ((z / 7 < 2147483648) ∧ ((z < 2147483648) ∧ ((z / 7 < 2147483648) ∧ ((-2147483648 ≤ (((z / 7) / 60 : Nat) : Int) ∧ (((z / 7) / 60 : Nat) : Int) < 2147483648) ∧ ((((decide (0 ≤ (((z / 7) / 60 : Nat) : Int) ∧ (((z / 7) / 60 : Nat) : Int) < (gN P : Int))) = false) → SW G (j + 4) mX9_tallest 18 [some (vr (49)), some (vi (a)), some (vi (((z + 1 : Nat) : Int))), none, none] [] (S nw nx g, 78 + gn, c) B0 post) ∧ (((decide (0 ≤ (((z / 7) / 60 : Nat) : Int) ∧ (((z / 7) / 60 : Nat) : Int) < (gN P : Int))) = true) → (-2147483648 ≤ (((z / 7) % 60 : Nat) : Int) ∧ (((z / 7) % 60 : Nat) : Int) < 2147483648) ∧ ((((decide (0 ≤ (((z / 7) % 60 : Nat) : Int) ∧ (((z / 7) % 60 : Nat) : Int) < (gN P : Int))) = false) → SW G (j + 4) mX9_tallest 18 [some (vr (49)), some (vi (a)), some (vi (((z + 1 : Nat) : Int))), none, none] [] (S nw nx g, 78 + gn, c) B0 post) ∧ (((decide (0 ≤ (((z / 7) % 60 : Nat) : Int) ∧ (((z / 7) % 60 : Nat) : Int) < (gN P : Int))) = true) → (z < 25200) ∧ (z / 7 / 60 < gN P) ∧ (z / 7 % 60 < gN P) ∧ ((-2147483648 ≤ a ∧ a < 2147483648) ∧ (-2147483648 ≤ T (z / 7 / 60) (z / 7 % 60) (z % 7) ∧ T (z / 7 / 60) (z / 7 % 60) (z % 7) < 2147483648) ∧ (SW G (j + 4) mX9_tallest 18 [some (vr (49)), some (vi (if a < T (z / 7 / 60) (z / 7 % 60) (z % 7) then T (z / 7 / 60) (z / 7 % 60) (z % 7) else a)), some (vi (((z + 1 : Nat) : Int))), none, none] [] (S nw nx g, 78 + gn, c) B0 post))))))))))))) :
    SW G (j + 4) mX9_tallest 18 [some (vr (49)), some (vi (a)), some (vi (((z : Nat) : Int))), none, none] [] (S nw nx g, 78 + gn, c) B0 post := by
  refine sw_iload_n (dX9_tallest.at 11 rfl) rfl rfl ?_
  refine sw_aload_n (dX9_tallest.at 12 rfl) rfl rfl ?_
  refine sw_getR (dX9_tallest.at 13 rfl) fp_X9_64 (S_lt 49 (by decide)) (S_49 nw nx g) rfl rfl ?_
  refine sw_alen (dX9_tallest.at 14 rfl) (S_lt 66 (by decide)) (S_66 nw nx g) (by decide) ?_
  refine sw_icmpN_ge z 25200 (tgt := 82) (dX9_tallest.at 15 rfl) (by decide) hv.1 (by decide) (fun q => ?_) (fun q => ?_)
  · replace hv := hv.2.1 q
    refine sw_iload_n (dX9_tallest.at 47 rfl) rfl rfl ?_
    exact sw_iret (dX9_tallest.at 48 rfl) rfl (Nat.le_refl _) (Nat.le_refl _) hv
  · replace hv := hv.2.2 q
    refine sw_iload_n (dX9_tallest.at 16 rfl) rfl rfl ?_
    refine sw_bipush (dX9_tallest.at 17 rfl) (by decide) ?_
    refine sw_idivN z 7 (dX9_tallest.at 18 rfl) (by decide) (by decide) hv.1 ?_
    replace hv := hv.2
    refine sw_bipush (dX9_tallest.at 19 rfl) (by decide) ?_
    refine sw_idivN (z / 7) 60 (dX9_tallest.at 20 rfl) (by decide) (by decide) hv.1 ?_
    replace hv := hv.2
    refine sw_istore_n (lo' := [some (vr (49)), some (vi (a)), some (vi (((z : Nat) : Int))), some (vi ((((z / 7) / 60 : Nat) : Int))), none]) (dX9_tallest.at 21 rfl) rfl (by decide) rfl ?_
    refine sw_iload_n (dX9_tallest.at 22 rfl) rfl rfl ?_
    refine sw_bipush (dX9_tallest.at 23 rfl) (by decide) ?_
    refine sw_idivN z 7 (dX9_tallest.at 24 rfl) (by decide) (by decide) hv.1 ?_
    replace hv := hv.2
    refine sw_bipush (dX9_tallest.at 25 rfl) (by decide) ?_
    refine sw_iremN (z / 7) 60 (dX9_tallest.at 26 rfl) (by decide) (by decide) hv.1 ?_
    replace hv := hv.2
    refine sw_istore (lo' := [some (vr (49)), some (vi (a)), some (vi (((z : Nat) : Int))), some (vi ((((z / 7) / 60 : Nat) : Int))), some (vi ((((z / 7) % 60 : Nat) : Int)))]) (dX9_tallest.at 27 rfl) (by decide) rfl ?_
    refine sw_aload_n (dX9_tallest.at 28 rfl) rfl rfl ?_
    refine sw_iload_n (dX9_tallest.at 29 rfl) rfl rfl ?_
    refine sw_callV (B' := B0) (As := [vi ((((z / 7) / 60 : Nat) : Int))]) (mc := 0) (ms := 0) (dX9_tallest.at 30 rfl) lk_X9_251 (S_lt 49 (by decide)) (S_49 nw nx g) rfl rfl (Nat.le_of_ble_eq_true rfl) rfl (Nat.le_refl _) (Nat.le_refl _) ?_
    refine c_X9_isElement (x := (((z / 7) / 60 : Nat) : Int)) (j := j + 2) hM hV hv.1 ?_
    replace hv := hv.2
    refine sw_if_eq (tgt := 74) (dX9_tallest.at 31 rfl) (by decide) (bz_rng _) (fun q => ?_) (fun q => ?_)
    · replace hv := hv.1 (bz_0 q)
      refine sw_iload_n (dX9_tallest.at 43 rfl) rfl rfl ?_
      refine sw_istore_n (lo' := [some (vr (49)), some (vi (a)), some (vi (((z : Nat) : Int))), some (vi ((((z / 7) / 60 : Nat) : Int))), some (vi ((((z / 7) % 60 : Nat) : Int)))]) (dX9_tallest.at 44 rfl) rfl (by decide) rfl ?_
      refine sw_iinc (lo' := [some (vr (49)), some (vi (a)), some (vi (((z + 1 : Nat) : Int))), some (vi ((((z / 7) / 60 : Nat) : Int))), some (vi ((((z / 7) % 60 : Nat) : Int)))]) (dX9_tallest.at 45 rfl) rfl (by decide) rfl ?_
      refine sw_goto (tgt := 18) (dX9_tallest.at 46 rfl) (by decide) ?_
      exact sw_mask (bs := [true, true, true, false, false]) hv
    · replace hv := hv.2 (bz_n0 q)
      refine sw_aload_n (dX9_tallest.at 32 rfl) rfl rfl ?_
      refine sw_iload (dX9_tallest.at 33 rfl) rfl ?_
      refine sw_callV (B' := B0) (As := [vi ((((z / 7) % 60 : Nat) : Int))]) (mc := 0) (ms := 0) (dX9_tallest.at 34 rfl) lk_X9_251 (S_lt 49 (by decide)) (S_49 nw nx g) rfl rfl (Nat.le_of_ble_eq_true rfl) rfl (Nat.le_refl _) (Nat.le_refl _) ?_
      refine c_X9_isElement (x := (((z / 7) % 60 : Nat) : Int)) (j := j + 2) hM hV hv.1 ?_
      replace hv := hv.2
      refine sw_if_eq (tgt := 74) (dX9_tallest.at 35 rfl) (by decide) (bz_rng _) (fun q => ?_) (fun q => ?_)
      · replace hv := hv.1 (bz_0 q)
        refine sw_iload_n (dX9_tallest.at 43 rfl) rfl rfl ?_
        refine sw_istore_n (lo' := [some (vr (49)), some (vi (a)), some (vi (((z : Nat) : Int))), some (vi ((((z / 7) / 60 : Nat) : Int))), some (vi ((((z / 7) % 60 : Nat) : Int)))]) (dX9_tallest.at 44 rfl) rfl (by decide) rfl ?_
        refine sw_iinc (lo' := [some (vr (49)), some (vi (a)), some (vi (((z + 1 : Nat) : Int))), some (vi ((((z / 7) / 60 : Nat) : Int))), some (vi ((((z / 7) % 60 : Nat) : Int)))]) (dX9_tallest.at 45 rfl) rfl (by decide) rfl ?_
        refine sw_goto (tgt := 18) (dX9_tallest.at 46 rfl) (by decide) ?_
        exact sw_mask (bs := [true, true, true, false, false]) hv
      · replace hv := hv.2 (bz_n0 q)
        refine sw_iload_n (dX9_tallest.at 36 rfl) rfl rfl ?_
        refine sw_aload_n (dX9_tallest.at 37 rfl) rfl rfl ?_
        refine sw_getR (dX9_tallest.at 38 rfl) fp_X9_64 (S_lt 49 (by decide)) (S_49 nw nx g) rfl rfl ?_
        refine sw_iload_n (dX9_tallest.at 39 rfl) rfl rfl ?_
        refine sw_ialdN z (w := T (z / 7 / 60) (z / 7 % 60) (z % 7)) (dX9_tallest.at 40 rfl) (S_lt 66 (by decide)) (S_66 nw nx g) (by decide) hv.1 (PD_66 hD hv.2.1 hv.2.2.1) ?_
        replace hv := hv.2.2.2
        refine sw_imax (dX9_tallest.at 41 rfl) lk_X9_333 (Nat.le_of_ble_eq_true rfl) (Nat.le_refl _) (Nat.le_refl _) hv.1 hv.2.1 ?_
        replace hv := hv.2.2
        refine sw_goto (tgt := 75) (dX9_tallest.at 42 rfl) (by decide) ?_
        refine sw_istore_n (lo' := [some (vr (49)), some (vi (if a < T (z / 7 / 60) (z / 7 % 60) (z % 7) then T (z / 7 / 60) (z / 7 % 60) (z % 7) else a)), some (vi (((z : Nat) : Int))), some (vi ((((z / 7) / 60 : Nat) : Int))), some (vi ((((z / 7) % 60 : Nat) : Int)))]) (dX9_tallest.at 44 rfl) rfl (by decide) rfl ?_
        refine sw_iinc (lo' := [some (vr (49)), some (vi (if a < T (z / 7 / 60) (z / 7 % 60) (z % 7) then T (z / 7 / 60) (z / 7 % 60) (z % 7) else a)), some (vi (((z + 1 : Nat) : Int))), some (vi ((((z / 7) / 60 : Nat) : Int))), some (vi ((((z / 7) % 60 : Nat) : Int)))]) (dX9_tallest.at 45 rfl) rfl (by decide) rfl ?_
        refine sw_goto (tgt := 18) (dX9_tallest.at 46 rfl) (by decide) ?_
        exact sw_mask (bs := [true, true, true, false, false]) hv

set_option maxHeartbeats 4000000 in
theorem lp_X9_tallest_18 {G : GG} {j nw nx gn : Nat} {g : Nat → Sh} {c : Nat → Nat → Int} {post : Option AV → AM → Prop} {P : GD} {T : PT} (hM : ML c P) (hV : GV P) (hC : GC P) (hD : PD P T c) (hT : HT P T) : ∀ (k : Nat) (z : Nat) (a : Int), z + k = 25200 → (0 ≤ a ∧ a < 1000) → (post (some (vi (mtA P T k z a))) (S nw nx g, 78 + gn, c)) → SW G (j + 4) mX9_tallest 18 [some (vr (49)), some (vi (a)), some (vi (((z : Nat) : Int))), none, none] [] (S nw nx g, 78 + gn, c) B0 post := by
  intro k
  induction k with
  | zero =>
    intro z a hrel ha K
    rw [mtA] at K
    refine g_X9_tallest_18 hM hV hC hD hT ?_
    refine ⟨?_, ⟨fun q => ?_, fun q => ⟨?_, ⟨?_, ⟨?_, ⟨?_, ⟨?_, ⟨fun q => ?_, fun q => ⟨?_, ⟨fun q => ?_, fun q => ⟨?_, ?_, ?_, ⟨?_, ?_, ?_⟩⟩⟩⟩⟩⟩⟩⟩⟩⟩⟩⟩
    all_goals first | omega | exact K | (exfalso; omega)
  | succ k ih =>
    intro z a hrel ha K
    have h60 := GV_N hV
    rw [mtA] at K
    refine g_X9_tallest_18 hM hV hC hD hT ?_
    by_cases hh : z / 7 / 60 < gN P ∧ z / 7 % 60 < gN P
    · rw [if_pos hh] at K
      have b9 := hT.2.2 _ _ (z % 7) hh.1 hh.2 (by omega)
      have m9 := mxI_rng ha b9
      refine ⟨?_, ⟨fun q => ?_, fun q => ⟨?_, ⟨?_, ⟨?_, ⟨?_, ⟨?_, ⟨fun q => ?_, fun q => ⟨?_, ⟨fun q => ?_, fun q => ⟨?_, ?_, ?_, ⟨?_, ?_, ?_⟩⟩⟩⟩⟩⟩⟩⟩⟩⟩⟩⟩
      all_goals (try simp only [decide_eq_true_eq, decide_eq_false_iff_not] at *)
      all_goals first | omega | (exfalso; omega) | exact ih _ _ (by omega) m9 K
    · rw [if_neg hh] at K
      refine ⟨?_, ⟨fun q => ?_, fun q => ⟨?_, ⟨?_, ⟨?_, ⟨?_, ⟨?_, ⟨fun q => ?_, fun q => ⟨?_, ⟨fun q => ?_, fun q => ⟨?_, ?_, ?_, ⟨?_, ?_, ?_⟩⟩⟩⟩⟩⟩⟩⟩⟩⟩⟩⟩
      all_goals (try simp only [decide_eq_true_eq, decide_eq_false_iff_not] at *)
      all_goals first | omega | (exfalso; omega) | exact ih _ _ (by omega) ha K

set_option maxHeartbeats 2000000 in
set_option maxRecDepth 20000 in
theorem g_X9_tallest_0 {G : GG} {j nw nx gn : Nat} {g : Nat → Sh} {c : Nat → Nat → Int} {post : Option AV → AM → Prop} {P : GD} {T : PT} (hM : ML c P) (hV : GV P) (hC : GC P) (hG : GP P T) (hR : RR P T c)  (hv : (((decide (0 < gN P)) = true) → (∀ c_1 : Nat → Nat → Int, (SD c c_1 ∧ RD P T c_1) → SW G (j + 4) mX9_tallest 18 [some (vr (49)), some (vi (0)), some (vi (0)), none, none] [] (S nw nx g, 78 + gn, c_1) B0 post)) ∧ (((decide (0 < gN P)) = false) → post (some (vi ((-2)))) (S nw nx g, 78 + gn, c))) :
    SW G (j + 4) mX9_tallest 0 [some (vr (49)), none, none, none, none] [] (S nw nx g, 78 + gn, c) B0 post := by
  refine sw_aload_n (dX9_tallest.at 0 rfl) rfl rfl ?_
  refine sw_callV (B' := B0) (As := []) (mc := 0) (ms := 0) (dX9_tallest.at 1 rfl) lk_X9_248 (S_lt 49 (by decide)) (S_49 nw nx g) rfl rfl (Nat.le_of_ble_eq_true rfl) rfl (Nat.le_refl _) (Nat.le_refl _) ?_
  refine c_X9_is  (j := j + 3) hM hV ?_
  refine sw_if_ne (tgt := 10) (dX9_tallest.at 2 rfl) (by decide) (bz_rng _) (fun q => ?_) (fun q => ?_)
  · replace hv := hv.1 (bz_1 q)
    refine sw_aload_n (dX9_tallest.at 5 rfl) rfl rfl ?_
    refine sw_callV (B' := B0) (As := []) (mc := 0) (ms := 0) (dX9_tallest.at 6 rfl) lk_X9_305 (S_lt 49 (by decide)) (S_49 nw nx g) rfl rfl (Nat.le_of_ble_eq_true rfl) rfl (Nat.le_refl _) (Nat.le_refl _) ?_
    refine c_X9_laysPairs  (j := j + 0) hM hV hC hG hR (fun c_1 h_1 => ?_)
    replace hv := hv c_1 h_1
    refine sw_iconst (dX9_tallest.at 7 rfl) ?_
    refine sw_istore_n (lo' := [some (vr (49)), some (vi (0)), none, none, none]) (dX9_tallest.at 8 rfl) rfl (by decide) rfl ?_
    refine sw_iconst (dX9_tallest.at 9 rfl) ?_
    refine sw_istore_n (lo' := [some (vr (49)), some (vi (0)), some (vi (0)), none, none]) (dX9_tallest.at 10 rfl) rfl (by decide) rfl ?_
    exact hv
  · replace hv := hv.2 (bz_n1 q)
    refine sw_bipush (dX9_tallest.at 3 rfl) (by decide) ?_
    exact sw_iret (dX9_tallest.at 4 rfl) rfl (Nat.le_refl _) (Nat.le_refl _) hv

set_option maxHeartbeats 2000000 in
theorem c_X9_tallest {G : GG} {j nw nx gn : Nat} {g : Nat → Sh} {c : Nat → Nat → Int} {post : Option AV → AM → Prop} {P : GD} {T : PT} (hM : ML c P) (hV : GV P) (hC : GC P) (hG : GP P T) (hR : RR P T c) (hT : HT P T) (K : ∀ c2 : Nat → Nat → Int, (SD c c2 ∧ RR P T c2) → post (some (vi (q_tallest P T))) (S nw nx g, 78 + gn, c2)) : SM G (j + 5) mX9_tallest [vr 49] (S nw nx g, 78 + gn, c) 0 0 post := by
  refine sm_of wX9_tallest rfl (Nat.le_of_ble_eq_true rfl) ?_
  refine g_X9_tallest_0 hM hV hC hG hR ?_
  by_cases hn : gN P = 0
  · rw [q_tallest, if_pos hn] at K
    have K0 := K c ⟨SD_rf, hR⟩
    refine ⟨fun q => fun c_1 h_1 => ?_, fun q => ?_⟩
    all_goals (try simp only [decide_eq_true_eq, decide_eq_false_iff_not] at *)
    all_goals first | omega | exact K0 | (exfalso; omega)
  · rw [q_tallest, if_neg hn, ← mt_eq hV hG hT] at K
    refine ⟨fun q => fun c_1 h_1 => ?_, fun q => ?_⟩
    all_goals (try simp only [decide_eq_true_eq, decide_eq_false_iff_not] at *)
    all_goals first | omega | (exfalso; omega) | exact lp_X9_tallest_18 (ML_SD hM h_1.1) hV hC h_1.2.2 hT 25200 0 0 (by omega) (by omega) (K _ ⟨h_1.1, Or.inr h_1.2⟩)

theorem mu_no {P : GD} {T : PT} (hV : GV P) (hG : GP P T) {z w : Nat} (hz : z < gN P) (hw : w < gN P) (hb : (gD P w).testBit z = false) : muT P T z w = 0 := by
  rw [muT]; split
  · rename_i h
    have l1 := (hV.2.2.1 w hw).1
    exact (hG.2.2 z w hz hw).2.1 _ (by omega) (fun e => by rw [e] at h; omega) hb
  · rfl
set_option maxHeartbeats 2000000 in
set_option maxRecDepth 20000 in
theorem g_X9_product__0n {G : GG} {j nw nx gn : Nat} {g : Nat → Sh} {c : Nat → Nat → Int} {post : Option AV → AM → Prop} {s : Nat} {w : Nat} {u : Nat} {P : GD} {T : PT} (hM : ML c P) (hV : GV P) (hC : GC P) (hG : GP P T) (hR : RR P T c)  (hv : (-2147483648 ≤ ((s : Nat) : Int) ∧ ((s : Nat) : Int) < 2147483648) ∧ ((((decide (0 ≤ ((s : Nat) : Int) ∧ ((s : Nat) : Int) < (gR P : Int))) = false) → post (some (vi ((-2)))) (S nw nx g, 78 + gn, c)) ∧ (((decide (0 ≤ ((s : Nat) : Int) ∧ ((s : Nat) : Int) < (gR P : Int))) = true) → (w < gN P) ∧ (u < gN P) ∧ (∀ c_1 : Nat → Nat → Int, (SD c c_1 ∧ RD P T c_1) → (w < gN P) ∧ (s < gR P) ∧ (0 < 2) ∧ (((((dsc P w 0).testBit s) = false) → (w < gN P) ∧ (s < gR P) ∧ ((u < 2147483648) ∧ (gX P (s + 1) w < 2147483648) ∧ (((u ≠ gX P (s + 1) w) → (u < 2147483648) ∧ (w < 2147483648) ∧ (((u = w) → post (some (vi (0))) (S nw nx g, 78 + gn, c_1)) ∧ ((¬ (u = w)) → (u < gN P) ∧ (w < gN P) ∧ (((((gD P w).testBit u) = false) → post (some (vi (0))) (S nw nx g, 78 + gn, c_1)) ∧ ((((gD P w).testBit u) = true) → (u < gN P) ∧ (s < gR P) ∧ (0 < 2) ∧ (((((dsc P u 0).testBit s) = false) → post (some (vi (0))) (S nw nx g, 78 + gn, c_1)) ∧ ((((dsc P u 0).testBit s) = true) → (u < gN P) ∧ (w < gN P) ∧ (post (some (vi (0 + (muT P T u w)))) (S nw nx g, 78 + gn, c_1))))))))) ∧ ((u = gX P (s + 1) w) → (u < 2147483648) ∧ (w < 2147483648) ∧ (((u = w) → post (some (vi (1))) (S nw nx g, 78 + gn, c_1)) ∧ ((¬ (u = w)) → (u < gN P) ∧ (w < gN P) ∧ (((((gD P w).testBit u) = false) → post (some (vi (1))) (S nw nx g, 78 + gn, c_1)) ∧ ((((gD P w).testBit u) = true) → (u < gN P) ∧ (s < gR P) ∧ (0 < 2) ∧ (((((dsc P u 0).testBit s) = false) → post (some (vi (1))) (S nw nx g, 78 + gn, c_1)) ∧ ((((dsc P u 0).testBit s) = true) → (u < gN P) ∧ (w < gN P) ∧ (post (some (vi (1 + (muT P T u w)))) (S nw nx g, 78 + gn, c_1)))))))))))) ∧ ((((dsc P w 0).testBit s) = true) → (u < 2147483648) ∧ (w < 2147483648) ∧ (((u ≠ w) → post (some (vi (0))) (S nw nx g, 78 + gn, c_1)) ∧ ((u = w) → post (some (vi (2))) (S nw nx g, 78 + gn, c_1))))))))) :
    SW G (j + 5) mX9_product_ 0 [some (vr (49)), some (vi (((s : Nat) : Int))), some (vi (((w : Nat) : Int))), some (vi (((u : Nat) : Int))), none, none] [] (S nw nx g, 78 + gn, c) B0 post := by
  refine sw_aload_n (dX9_product__0.at 0 rfl) rfl rfl ?_
  refine sw_iload_n (dX9_product__0.at 1 rfl) rfl rfl ?_
  refine sw_callV (B' := B0) (As := [vi (((s : Nat) : Int))]) (mc := 0) (ms := 0) (dX9_product__0.at 2 rfl) lk_X9_357 (S_lt 49 (by decide)) (S_49 nw nx g) rfl rfl (Nat.le_of_ble_eq_true rfl) rfl (Nat.le_refl _) (Nat.le_refl _) ?_
  refine c_X9_isLetter (x := ((s : Nat) : Int)) (j := j + 3) hM hV hv.1 ?_
  replace hv := hv.2
  refine sw_if_eq (tgt := 17) (dX9_product__0.at 3 rfl) (by decide) (bz_rng _) (fun q => ?_) (fun q => ?_)
  · replace hv := hv.1 (bz_0 q)
    refine sw_bipush (dX9_product__0.at 9 rfl) (by decide) ?_
    exact sw_iret (dX9_product__0.at 10 rfl) rfl (Nat.le_refl _) (Nat.le_refl _) hv
  · replace hv := hv.2 (bz_n0 q)
    refine sw_aload_n (dX9_product__0.at 4 rfl) rfl rfl ?_
    refine sw_iload_n (dX9_product__0.at 5 rfl) rfl rfl ?_
    refine sw_iload_n (dX9_product__0.at 6 rfl) rfl rfl ?_
    refine sw_callV (B' := B0) (As := [vi (((w : Nat) : Int)), vi (((u : Nat) : Int))]) (mc := 0) (ms := 0) (dX9_product__0.at 7 rfl) lk_X9_308 (S_lt 49 (by decide)) (S_49 nw nx g) rfl rfl (Nat.le_of_ble_eq_true rfl) rfl (Nat.le_refl _) (Nat.le_refl _) ?_
    refine c_X9_arePairY (x := w) (y := u) (j := j + 0) hM hV hC hG hR hv.1 hv.2.1 (fun c_1 h_1 => ?_)
    replace hv := hv.2.2 c_1 h_1
    refine sw_if_ne (tgt := 20) (dX9_product__0.at 8 rfl) (by decide) (by decide) (fun q => ?_) (fun q => ?_)
    · clear q
      refine sw_aload_n (dX9_product__0.at 11 rfl) rfl rfl ?_
      refine sw_iload_n (dX9_product__0.at 12 rfl) rfl rfl ?_
      refine sw_iload_n (dX9_product__0.at 13 rfl) rfl rfl ?_
      refine sw_iconst (dX9_product__0.at 14 rfl) ?_
      refine sw_callV (B' := B0) (As := [vi (((w : Nat) : Int)), vi (((s : Nat) : Int)), vi (0)]) (mc := 0) (ms := 0) (dX9_product__0.at 15 rfl) lk_X9_244 (S_lt 49 (by decide)) (S_49 nw nx g) rfl rfl (Nat.le_of_ble_eq_true rfl) rfl (Nat.le_refl _) (Nat.le_refl _) ?_
      refine c_X9_isShorter (x := w) (s := s) (sd := 0) (j := j + 4) (ML_SD hM (SD_tr SD_rf h_1.1)) hV hC hv.1 hv.2.1 hv.2.2.1 ?_
      replace hv := hv.2.2.2
      refine sw_if_eq (tgt := 41) (dX9_product__0.at 16 rfl) (by decide) (bz_rng _) (fun q => ?_) (fun q => ?_)
      · replace hv := hv.1 (bz_0 q)
        refine sw_iload_n (dX9_product__0.at 24 rfl) rfl rfl ?_
        refine sw_aload_n (dX9_product__0.at 25 rfl) rfl rfl ?_
        refine sw_getR (dX9_product__0.at 26 rfl) fp_X9_29 (S_lt 49 (by decide)) (S_49 nw nx g) rfl rfl ?_
        refine sw_iconst (dX9_product__0.at 27 rfl) ?_
        refine sw_iload_n (dX9_product__0.at 28 rfl) rfl rfl ?_
        refine sw_imul (dX9_product__0.at 29 rfl) ?_
        refine sw_topI (y := ((5 * w : Nat) : Int)) (by first | rfl | (congr 1)) ?_
        refine sw_iload_n (dX9_product__0.at 30 rfl) rfl rfl ?_
        refine sw_iadd (dX9_product__0.at 31 rfl) ?_
        refine sw_topI (y := (((5 * w) + s : Nat) : Int)) (by first | rfl | (congr 1)) ?_
        refine sw_ialdN ((5 * w) + s) (w := ((gX P (s + 1) w : Nat) : Int)) (dX9_product__0.at 32 rfl) (S_lt 55 (by decide)) (S_55 nw nx g) (by decide) (GV_5 hV hv.1 hv.2.1) (ML_Ah (ML_SD hM (SD_tr SD_rf h_1.1)) hv.1 hv.2.1) ?_
        replace hv := hv.2.2
        refine sw_icmpN_ne u (gX P (s + 1) w) (tgt := 59) (dX9_product__0.at 33 rfl) (by decide) hv.1 hv.2.1 (fun q => ?_) (fun q => ?_)
        · replace hv := hv.2.2.1 q
          refine sw_iconst (dX9_product__0.at 36 rfl) ?_
          refine sw_istore (lo' := [some (vr (49)), some (vi (((s : Nat) : Int))), some (vi (((w : Nat) : Int))), some (vi (((u : Nat) : Int))), some (vi (0)), none]) (dX9_product__0.at 37 rfl) (by decide) rfl ?_
          refine sw_iload_n (dX9_product__0.at 38 rfl) rfl rfl ?_
          refine sw_iload_n (dX9_product__0.at 39 rfl) rfl rfl ?_
          refine sw_icmpN_eq u w (tgt := 90) (dX9_product__0.at 40 rfl) (by decide) hv.1 hv.2.1 (fun q => ?_) (fun q => ?_)
          · replace hv := hv.2.2.1 q
            refine sw_iconst (dX9_product__1.at 4 rfl) ?_
            refine sw_istore (lo' := [some (vr (49)), some (vi (((s : Nat) : Int))), some (vi (((w : Nat) : Int))), some (vi (((u : Nat) : Int))), some (vi (0)), some (vi (0))]) (dX9_product__1.at 5 rfl) (by decide) rfl ?_
            refine sw_iload (dX9_product__1.at 6 rfl) rfl ?_
            refine sw_iload (dX9_product__1.at 7 rfl) rfl ?_
            refine sw_if_eq (tgt := 109) (dX9_product__1.at 8 rfl) (by decide) (by decide) (fun q => ?_) (fun q => ?_)
            · clear q
              refine sw_iconst (dX9_product__1.at 14 rfl) ?_
              refine sw_iadd (dX9_product__1.at 15 rfl) ?_
              refine sw_topI (y := 0) (by first | rfl | (congr 1)) ?_
              exact sw_iret (dX9_product__1.at 16 rfl) rfl (Nat.le_refl _) (Nat.le_refl _) hv
            · exact absurd q (by decide)
          · replace hv := hv.2.2.2 q
            refine sw_aload_n (dX9_product__0.at 41 rfl) rfl rfl ?_
            refine sw_iload_n (dX9_product__0.at 42 rfl) rfl rfl ?_
            refine sw_iload_n (dX9_product__0.at 43 rfl) rfl rfl ?_
            refine sw_callV (B' := B0) (As := [vi (((u : Nat) : Int)), vi (((w : Nat) : Int))]) (mc := 0) (ms := 0) (dX9_product__0.at 44 rfl) lk_X9_311 (S_lt 49 (by decide)) (S_49 nw nx g) rfl rfl (Nat.le_of_ble_eq_true rfl) rfl (Nat.le_refl _) (Nat.le_refl _) ?_
            refine c_X9_areBelow (v := u) (w := w) (j := j + 4) (ML_SD hM (SD_tr SD_rf h_1.1)) hV hC h_1.2.2 hv.1 hv.2.1 ?_
            replace hv := hv.2.2
            refine sw_if_eq (tgt := 90) (dX9_product__0.at 45 rfl) (by decide) (bz_rng _) (fun q => ?_) (fun q => ?_)
            · replace hv := hv.1 (bz_0 q)
              refine sw_iconst (dX9_product__1.at 4 rfl) ?_
              refine sw_istore (lo' := [some (vr (49)), some (vi (((s : Nat) : Int))), some (vi (((w : Nat) : Int))), some (vi (((u : Nat) : Int))), some (vi (0)), some (vi (0))]) (dX9_product__1.at 5 rfl) (by decide) rfl ?_
              refine sw_iload (dX9_product__1.at 6 rfl) rfl ?_
              refine sw_iload (dX9_product__1.at 7 rfl) rfl ?_
              refine sw_if_eq (tgt := 109) (dX9_product__1.at 8 rfl) (by decide) (by decide) (fun q => ?_) (fun q => ?_)
              · clear q
                refine sw_iconst (dX9_product__1.at 14 rfl) ?_
                refine sw_iadd (dX9_product__1.at 15 rfl) ?_
                refine sw_topI (y := 0) (by first | rfl | (congr 1)) ?_
                exact sw_iret (dX9_product__1.at 16 rfl) rfl (Nat.le_refl _) (Nat.le_refl _) hv
              · exact absurd q (by decide)
            · replace hv := hv.2 (bz_n0 q)
              refine sw_aload_n (dX9_product__0.at 46 rfl) rfl rfl ?_
              refine sw_iload_n (dX9_product__0.at 47 rfl) rfl rfl ?_
              refine sw_iload_n (dX9_product__0.at 48 rfl) rfl rfl ?_
              refine sw_iconst (dX9_product__0.at 49 rfl) ?_
              refine sw_callV (B' := B0) (As := [vi (((u : Nat) : Int)), vi (((s : Nat) : Int)), vi (0)]) (mc := 0) (ms := 0) (dX9_product__1.at 0 rfl) lk_X9_244 (S_lt 49 (by decide)) (S_49 nw nx g) rfl rfl (Nat.le_of_ble_eq_true rfl) rfl (Nat.le_refl _) (Nat.le_refl _) ?_
              refine c_X9_isShorter (x := u) (s := s) (sd := 0) (j := j + 4) (ML_SD hM (SD_tr SD_rf h_1.1)) hV hC hv.1 hv.2.1 hv.2.2.1 ?_
              replace hv := hv.2.2.2
              refine sw_if_eq (tgt := 90) (dX9_product__1.at 1 rfl) (by decide) (bz_rng _) (fun q => ?_) (fun q => ?_)
              · replace hv := hv.1 (bz_0 q)
                refine sw_iconst (dX9_product__1.at 4 rfl) ?_
                refine sw_istore (lo' := [some (vr (49)), some (vi (((s : Nat) : Int))), some (vi (((w : Nat) : Int))), some (vi (((u : Nat) : Int))), some (vi (0)), some (vi (0))]) (dX9_product__1.at 5 rfl) (by decide) rfl ?_
                refine sw_iload (dX9_product__1.at 6 rfl) rfl ?_
                refine sw_iload (dX9_product__1.at 7 rfl) rfl ?_
                refine sw_if_eq (tgt := 109) (dX9_product__1.at 8 rfl) (by decide) (by decide) (fun q => ?_) (fun q => ?_)
                · clear q
                  refine sw_iconst (dX9_product__1.at 14 rfl) ?_
                  refine sw_iadd (dX9_product__1.at 15 rfl) ?_
                  refine sw_topI (y := 0) (by first | rfl | (congr 1)) ?_
                  exact sw_iret (dX9_product__1.at 16 rfl) rfl (Nat.le_refl _) (Nat.le_refl _) hv
                · exact absurd q (by decide)
              · replace hv := hv.2 (bz_n0 q)
                refine sw_iconst (dX9_product__1.at 2 rfl) ?_
                refine sw_goto (tgt := 91) (dX9_product__1.at 3 rfl) (by decide) ?_
                refine sw_istore (lo' := [some (vr (49)), some (vi (((s : Nat) : Int))), some (vi (((w : Nat) : Int))), some (vi (((u : Nat) : Int))), some (vi (0)), some (vi (1))]) (dX9_product__1.at 5 rfl) (by decide) rfl ?_
                refine sw_iload (dX9_product__1.at 6 rfl) rfl ?_
                refine sw_iload (dX9_product__1.at 7 rfl) rfl ?_
                refine sw_if_eq (tgt := 109) (dX9_product__1.at 8 rfl) (by decide) (by decide) (fun q => ?_) (fun q => ?_)
                · exact absurd q (by decide)
                · clear q
                  refine sw_aload_n (dX9_product__1.at 9 rfl) rfl rfl ?_
                  refine sw_iload_n (dX9_product__1.at 10 rfl) rfl rfl ?_
                  refine sw_iload_n (dX9_product__1.at 11 rfl) rfl rfl ?_
                  refine sw_callV (B' := B0) (As := [vi (((u : Nat) : Int)), vi (((w : Nat) : Int))]) (mc := 0) (ms := 0) (dX9_product__1.at 12 rfl) lk_X9_319 (S_lt 49 (by decide)) (S_49 nw nx g) rfl rfl (Nat.le_of_ble_eq_true rfl) rfl (Nat.le_refl _) (Nat.le_refl _) ?_
                  refine c_X9_muOf (v := u) (w := w) (j := j + 2) (ML_SD hM (SD_tr SD_rf h_1.1)) hV hC h_1.2.2 hv.1 hv.2.1 ?_
                  replace hv := hv.2.2
                  refine sw_goto (tgt := 110) (dX9_product__1.at 13 rfl) (by decide) ?_
                  refine sw_iadd (dX9_product__1.at 15 rfl) ?_
                  exact sw_iret (dX9_product__1.at 16 rfl) rfl (Nat.le_refl _) (Nat.le_refl _) hv
        · replace hv := hv.2.2.2 q
          refine sw_iconst (dX9_product__0.at 34 rfl) ?_
          refine sw_goto (tgt := 60) (dX9_product__0.at 35 rfl) (by decide) ?_
          refine sw_istore (lo' := [some (vr (49)), some (vi (((s : Nat) : Int))), some (vi (((w : Nat) : Int))), some (vi (((u : Nat) : Int))), some (vi (1)), none]) (dX9_product__0.at 37 rfl) (by decide) rfl ?_
          refine sw_iload_n (dX9_product__0.at 38 rfl) rfl rfl ?_
          refine sw_iload_n (dX9_product__0.at 39 rfl) rfl rfl ?_
          refine sw_icmpN_eq u w (tgt := 90) (dX9_product__0.at 40 rfl) (by decide) hv.1 hv.2.1 (fun q => ?_) (fun q => ?_)
          · replace hv := hv.2.2.1 q
            refine sw_iconst (dX9_product__1.at 4 rfl) ?_
            refine sw_istore (lo' := [some (vr (49)), some (vi (((s : Nat) : Int))), some (vi (((w : Nat) : Int))), some (vi (((u : Nat) : Int))), some (vi (1)), some (vi (0))]) (dX9_product__1.at 5 rfl) (by decide) rfl ?_
            refine sw_iload (dX9_product__1.at 6 rfl) rfl ?_
            refine sw_iload (dX9_product__1.at 7 rfl) rfl ?_
            refine sw_if_eq (tgt := 109) (dX9_product__1.at 8 rfl) (by decide) (by decide) (fun q => ?_) (fun q => ?_)
            · clear q
              refine sw_iconst (dX9_product__1.at 14 rfl) ?_
              refine sw_iadd (dX9_product__1.at 15 rfl) ?_
              refine sw_topI (y := 1) (by first | rfl | (congr 1)) ?_
              exact sw_iret (dX9_product__1.at 16 rfl) rfl (Nat.le_refl _) (Nat.le_refl _) hv
            · exact absurd q (by decide)
          · replace hv := hv.2.2.2 q
            refine sw_aload_n (dX9_product__0.at 41 rfl) rfl rfl ?_
            refine sw_iload_n (dX9_product__0.at 42 rfl) rfl rfl ?_
            refine sw_iload_n (dX9_product__0.at 43 rfl) rfl rfl ?_
            refine sw_callV (B' := B0) (As := [vi (((u : Nat) : Int)), vi (((w : Nat) : Int))]) (mc := 0) (ms := 0) (dX9_product__0.at 44 rfl) lk_X9_311 (S_lt 49 (by decide)) (S_49 nw nx g) rfl rfl (Nat.le_of_ble_eq_true rfl) rfl (Nat.le_refl _) (Nat.le_refl _) ?_
            refine c_X9_areBelow (v := u) (w := w) (j := j + 4) (ML_SD hM (SD_tr SD_rf h_1.1)) hV hC h_1.2.2 hv.1 hv.2.1 ?_
            replace hv := hv.2.2
            refine sw_if_eq (tgt := 90) (dX9_product__0.at 45 rfl) (by decide) (bz_rng _) (fun q => ?_) (fun q => ?_)
            · replace hv := hv.1 (bz_0 q)
              refine sw_iconst (dX9_product__1.at 4 rfl) ?_
              refine sw_istore (lo' := [some (vr (49)), some (vi (((s : Nat) : Int))), some (vi (((w : Nat) : Int))), some (vi (((u : Nat) : Int))), some (vi (1)), some (vi (0))]) (dX9_product__1.at 5 rfl) (by decide) rfl ?_
              refine sw_iload (dX9_product__1.at 6 rfl) rfl ?_
              refine sw_iload (dX9_product__1.at 7 rfl) rfl ?_
              refine sw_if_eq (tgt := 109) (dX9_product__1.at 8 rfl) (by decide) (by decide) (fun q => ?_) (fun q => ?_)
              · clear q
                refine sw_iconst (dX9_product__1.at 14 rfl) ?_
                refine sw_iadd (dX9_product__1.at 15 rfl) ?_
                refine sw_topI (y := 1) (by first | rfl | (congr 1)) ?_
                exact sw_iret (dX9_product__1.at 16 rfl) rfl (Nat.le_refl _) (Nat.le_refl _) hv
              · exact absurd q (by decide)
            · replace hv := hv.2 (bz_n0 q)
              refine sw_aload_n (dX9_product__0.at 46 rfl) rfl rfl ?_
              refine sw_iload_n (dX9_product__0.at 47 rfl) rfl rfl ?_
              refine sw_iload_n (dX9_product__0.at 48 rfl) rfl rfl ?_
              refine sw_iconst (dX9_product__0.at 49 rfl) ?_
              refine sw_callV (B' := B0) (As := [vi (((u : Nat) : Int)), vi (((s : Nat) : Int)), vi (0)]) (mc := 0) (ms := 0) (dX9_product__1.at 0 rfl) lk_X9_244 (S_lt 49 (by decide)) (S_49 nw nx g) rfl rfl (Nat.le_of_ble_eq_true rfl) rfl (Nat.le_refl _) (Nat.le_refl _) ?_
              refine c_X9_isShorter (x := u) (s := s) (sd := 0) (j := j + 4) (ML_SD hM (SD_tr SD_rf h_1.1)) hV hC hv.1 hv.2.1 hv.2.2.1 ?_
              replace hv := hv.2.2.2
              refine sw_if_eq (tgt := 90) (dX9_product__1.at 1 rfl) (by decide) (bz_rng _) (fun q => ?_) (fun q => ?_)
              · replace hv := hv.1 (bz_0 q)
                refine sw_iconst (dX9_product__1.at 4 rfl) ?_
                refine sw_istore (lo' := [some (vr (49)), some (vi (((s : Nat) : Int))), some (vi (((w : Nat) : Int))), some (vi (((u : Nat) : Int))), some (vi (1)), some (vi (0))]) (dX9_product__1.at 5 rfl) (by decide) rfl ?_
                refine sw_iload (dX9_product__1.at 6 rfl) rfl ?_
                refine sw_iload (dX9_product__1.at 7 rfl) rfl ?_
                refine sw_if_eq (tgt := 109) (dX9_product__1.at 8 rfl) (by decide) (by decide) (fun q => ?_) (fun q => ?_)
                · clear q
                  refine sw_iconst (dX9_product__1.at 14 rfl) ?_
                  refine sw_iadd (dX9_product__1.at 15 rfl) ?_
                  refine sw_topI (y := 1) (by first | rfl | (congr 1)) ?_
                  exact sw_iret (dX9_product__1.at 16 rfl) rfl (Nat.le_refl _) (Nat.le_refl _) hv
                · exact absurd q (by decide)
              · replace hv := hv.2 (bz_n0 q)
                refine sw_iconst (dX9_product__1.at 2 rfl) ?_
                refine sw_goto (tgt := 91) (dX9_product__1.at 3 rfl) (by decide) ?_
                refine sw_istore (lo' := [some (vr (49)), some (vi (((s : Nat) : Int))), some (vi (((w : Nat) : Int))), some (vi (((u : Nat) : Int))), some (vi (1)), some (vi (1))]) (dX9_product__1.at 5 rfl) (by decide) rfl ?_
                refine sw_iload (dX9_product__1.at 6 rfl) rfl ?_
                refine sw_iload (dX9_product__1.at 7 rfl) rfl ?_
                refine sw_if_eq (tgt := 109) (dX9_product__1.at 8 rfl) (by decide) (by decide) (fun q => ?_) (fun q => ?_)
                · exact absurd q (by decide)
                · clear q
                  refine sw_aload_n (dX9_product__1.at 9 rfl) rfl rfl ?_
                  refine sw_iload_n (dX9_product__1.at 10 rfl) rfl rfl ?_
                  refine sw_iload_n (dX9_product__1.at 11 rfl) rfl rfl ?_
                  refine sw_callV (B' := B0) (As := [vi (((u : Nat) : Int)), vi (((w : Nat) : Int))]) (mc := 0) (ms := 0) (dX9_product__1.at 12 rfl) lk_X9_319 (S_lt 49 (by decide)) (S_49 nw nx g) rfl rfl (Nat.le_of_ble_eq_true rfl) rfl (Nat.le_refl _) (Nat.le_refl _) ?_
                  refine c_X9_muOf (v := u) (w := w) (j := j + 2) (ML_SD hM (SD_tr SD_rf h_1.1)) hV hC h_1.2.2 hv.1 hv.2.1 ?_
                  replace hv := hv.2.2
                  refine sw_goto (tgt := 110) (dX9_product__1.at 13 rfl) (by decide) ?_
                  refine sw_iadd (dX9_product__1.at 15 rfl) ?_
                  exact sw_iret (dX9_product__1.at 16 rfl) rfl (Nat.le_refl _) (Nat.le_refl _) hv
      · replace hv := hv.2 (bz_n0 q)
        refine sw_iload_n (dX9_product__0.at 17 rfl) rfl rfl ?_
        refine sw_iload_n (dX9_product__0.at 18 rfl) rfl rfl ?_
        refine sw_icmpN_ne u w (tgt := 39) (dX9_product__0.at 19 rfl) (by decide) hv.1 hv.2.1 (fun q => ?_) (fun q => ?_)
        · replace hv := hv.2.2.1 q
          refine sw_iconst (dX9_product__0.at 22 rfl) ?_
          exact sw_iret (dX9_product__0.at 23 rfl) rfl (Nat.le_refl _) (Nat.le_refl _) hv
        · replace hv := hv.2.2.2 q
          refine sw_iconst (dX9_product__0.at 20 rfl) ?_
          refine sw_goto (tgt := 40) (dX9_product__0.at 21 rfl) (by decide) ?_
          exact sw_iret (dX9_product__0.at 23 rfl) rfl (Nat.le_refl _) (Nat.le_refl _) hv
    · exact absurd q (by decide)

set_option maxHeartbeats 2000000 in
set_option maxRecDepth 20000 in
theorem g_X9_product__0 {G : GG} {j nw nx gn : Nat} {g : Nat → Sh} {c : Nat → Nat → Int} {post : Option AV → AM → Prop} {s : Int} {w : Int} {u : Int} {P : GD} {T : PT} (hM : ML c P) (hV : GV P) (hC : GC P) (hG : GP P T) (hR : RR P T c)  (hv : (-2147483648 ≤ s ∧ s < 2147483648) ∧ ((((decide (0 ≤ s ∧ s < (gR P : Int))) = false) → post (some (vi ((-2)))) (S nw nx g, 78 + gn, c)) ∧ (((decide (0 ≤ s ∧ s < (gR P : Int))) = true) → (-2147483648 ≤ w ∧ w < 2147483648) ∧ (-2147483648 ≤ u ∧ u < 2147483648) ∧ (∀ c_1 : Nat → Nat → Int, (SD c c_1 ∧ RR P T c_1) → (((decide ((0 ≤ w ∧ w < (gN P : Int)) ∧ 0 ≤ u ∧ u < (gN P : Int))) = true) → SW G (j + 5) mX9_product_ 24 [some (vr (49)), some (vi (s)), some (vi (w)), some (vi (u)), none, none] [vi (0), vi (s), vi (w), vr (49)] (S nw nx g, 78 + gn, c_1) B0 post) ∧ (((decide ((0 ≤ w ∧ w < (gN P : Int)) ∧ 0 ≤ u ∧ u < (gN P : Int))) = false) → post (some (vi ((-2)))) (S nw nx g, 78 + gn, c_1)))))) :
    SW G (j + 5) mX9_product_ 0 [some (vr (49)), some (vi (s)), some (vi (w)), some (vi (u)), none, none] [] (S nw nx g, 78 + gn, c) B0 post := by
  refine sw_aload_n (dX9_product__0.at 0 rfl) rfl rfl ?_
  refine sw_iload_n (dX9_product__0.at 1 rfl) rfl rfl ?_
  refine sw_callV (B' := B0) (As := [vi (s)]) (mc := 0) (ms := 0) (dX9_product__0.at 2 rfl) lk_X9_357 (S_lt 49 (by decide)) (S_49 nw nx g) rfl rfl (Nat.le_of_ble_eq_true rfl) rfl (Nat.le_refl _) (Nat.le_refl _) ?_
  refine c_X9_isLetter (x := s) (j := j + 3) hM hV hv.1 ?_
  replace hv := hv.2
  refine sw_if_eq (tgt := 17) (dX9_product__0.at 3 rfl) (by decide) (bz_rng _) (fun q => ?_) (fun q => ?_)
  · replace hv := hv.1 (bz_0 q)
    refine sw_bipush (dX9_product__0.at 9 rfl) (by decide) ?_
    exact sw_iret (dX9_product__0.at 10 rfl) rfl (Nat.le_refl _) (Nat.le_refl _) hv
  · replace hv := hv.2 (bz_n0 q)
    refine sw_aload_n (dX9_product__0.at 4 rfl) rfl rfl ?_
    refine sw_iload_n (dX9_product__0.at 5 rfl) rfl rfl ?_
    refine sw_iload_n (dX9_product__0.at 6 rfl) rfl rfl ?_
    refine sw_callV (B' := B0) (As := [vi (w), vi (u)]) (mc := 0) (ms := 0) (dX9_product__0.at 7 rfl) lk_X9_308 (S_lt 49 (by decide)) (S_49 nw nx g) rfl rfl (Nat.le_of_ble_eq_true rfl) rfl (Nat.le_refl _) (Nat.le_refl _) ?_
    refine c_X9_arePairG (x := w) (y := u) (j := j + 0) hM hV hC hG hR hv.1 hv.2.1 (fun c_1 h_1 => ?_)
    replace hv := hv.2.2 c_1 h_1
    refine sw_if_ne (tgt := 20) (dX9_product__0.at 8 rfl) (by decide) (bz_rng _) (fun q => ?_) (fun q => ?_)
    · replace hv := hv.1 (bz_1 q)
      refine sw_aload_n (dX9_product__0.at 11 rfl) rfl rfl ?_
      refine sw_iload_n (dX9_product__0.at 12 rfl) rfl rfl ?_
      refine sw_iload_n (dX9_product__0.at 13 rfl) rfl rfl ?_
      refine sw_iconst (dX9_product__0.at 14 rfl) ?_
      exact hv
    · replace hv := hv.2 (bz_n1 q)
      refine sw_bipush (dX9_product__0.at 9 rfl) (by decide) ?_
      exact sw_iret (dX9_product__0.at 10 rfl) rfl (Nat.le_refl _) (Nat.le_refl _) hv

set_option maxHeartbeats 4000000 in
theorem c_X9_product_ {G : GG} {j nw nx gn : Nat} {g : Nat → Sh} {c : Nat → Nat → Int} {post : Option AV → AM → Prop} {P : GD} {T : PT} {s w u : Int} (hM : ML c P) (hV : GV P) (hC : GC P) (hG : GP P T) (hR : RR P T c) (p1 : -2147483648 ≤ s ∧ s < 2147483648) (p2 : -2147483648 ≤ w ∧ w < 2147483648) (p3 : -2147483648 ≤ u ∧ u < 2147483648) (K : ∀ c2 : Nat → Nat → Int, (SD c c2 ∧ RR P T c2) → post (some (vi (q_product P T s w u))) (S nw nx g, 78 + gn, c2)) : SM G (j + 6) mX9_product_ [vr (49), vi (s), vi (w), vi (u)] (S nw nx g, 78 + gn, c) 0 0 post := by
  refine sm_of wX9_product_ rfl (Nat.le_of_ble_eq_true rfl) ?_
  have hN60 := GV_N hV
  have hR5 := GV_R hV
  by_cases hv : (0 ≤ s ∧ s < (gR P : Int)) ∧ (0 ≤ w ∧ w < (gN P : Int)) ∧ 0 ≤ u ∧ u < (gN P : Int)
  · obtain ⟨s, rfl⟩ : ∃ n : Nat, s = (n : Int) := ⟨s.toNat, by omega⟩
    obtain ⟨w, rfl⟩ : ∃ n : Nat, w = (n : Int) := ⟨w.toNat, by omega⟩
    obtain ⟨u, rfl⟩ : ∃ n : Nat, u = (n : Int) := ⟨u.toNat, by omega⟩
    have e : q_product P T ((s : Nat) : Int) ((w : Nat) : Int) ((u : Nat) : Int) = pdF P T s w u := by
      rw [q_product, if_pos hv]
      simp only [Int.toNat_natCast]
    rw [e] at K
    have K1 : ∀ (z : Int) (c2 : Nat → Nat → Int), ((SD c c2 ∧ RR P T c2)) → z = (pdF P T s w u) → post (some (vi z)) (S nw nx g, 78 + gn, c2) := fun z c2 h e9 => e9 ▸ K c2 h
    have hw0 : w < gN P := by omega
    have hz0 : u < gN P := by omega
    have hs0 : s < gR P := by omega
    have hs1 := hC.1.2 s hs0
    have fX := hV.2.2.2.2.1 (s + 1) w hs1 hw0
    have m9 := fun h => mu_no (T := T) hV hG hz0 hw0 h
    have x9 : u = gX P (s + 1) w → (gF P w).testBit s = false → (gD P w).testBit u = true → u = w := fun h1 h2 h3 => by
      apply Classical.byContradiction
      intro e
      have d9 := (hC.2.2.2.1 w s hw0 hs0).2
      rw [h2] at d9
      have l9 := of_decide_eq_false d9.symm
      have := ((hG.2.2 u w hz0 hw0).2.2.1 e h3).1
      rw [h1] at this
      omega
    have y9 : gX P (s + 1) w ≠ w := fun h => by
      have := hC.2.2.2.2.2 w s hw0 hs0
      rw [h] at this
      omega
    have K2 : ∀ (zz : Int) (c2 : Nat → Nat → Int), SD c c2 → RD P T c2 → zz = pdF P T s w u → post (some (vi zz)) (S nw nx g, 78 + gn, c2) := fun zz c2 h1 h2 h3 => h3 ▸ K c2 ⟨h1, Or.inr h2⟩
    refine g_X9_product__0n hM hV hC hG hR ?_
    simp only [show ∀ q, dsc P q 0 = gF P q from fun _ => rfl]
    refine ⟨?_, ⟨fun q => ?_, fun q => ⟨?_, ?_, fun c_1 h_1 => ⟨?_, ?_, ?_, ⟨fun q => ⟨?_, ?_, ⟨?_, ?_, ⟨fun q => ⟨?_, ?_, ⟨fun q => ?_, fun q => ⟨?_, ?_, ⟨fun q => ?_, fun q => ⟨?_, ?_, ?_, ⟨fun q => ?_, fun q => ⟨?_, ?_, ?_⟩⟩⟩⟩⟩⟩⟩, fun q => ⟨?_, ?_, ⟨fun q => ?_, fun q => ⟨?_, ?_, ⟨fun q => ?_, fun q => ⟨?_, ?_, ?_, ⟨fun q => ?_, fun q => ⟨?_, ?_, ?_⟩⟩⟩⟩⟩⟩⟩⟩⟩⟩, fun q => ⟨?_, ?_, ⟨fun q => ?_, fun q => ?_⟩⟩⟩⟩⟩⟩⟩
    all_goals first | omega | assumption | (exfalso; simp only [decide_eq_true_eq, decide_eq_false_iff_not] at *; omega) | (exfalso; exact absurd (x9 (by assumption) (by assumption) (by assumption)) (by assumption)) | (refine K2 _ _ h_1.1 h_1.2 ?_; rw [pdF, if_neg (by rw [‹(gF P w).testBit s = false›]; decide), if_neg (by assumption), if_pos (Or.inl (by assumption))]; try rfl) | (refine K2 _ _ h_1.1 h_1.2 ?_; rw [pdF, if_neg (by rw [‹(gF P w).testBit s = false›]; decide), if_neg (by assumption), if_pos (Or.inr (by assumption))]; try rfl) | (refine K2 _ _ h_1.1 h_1.2 ?_; simp [pdF, *]; done) | (refine K2 _ _ h_1.1 h_1.2 ?_; have m8 := m9 (by assumption); simp [pdF, *]; done)
  · have e : q_product P T s w u = (-2) := by rw [q_product, if_neg hv]
    rw [e] at K
    have K1 : ∀ (z : Int) (c2 : Nat → Nat → Int), ((SD c c2 ∧ RR P T c2)) → z = ((-2)) → post (some (vi z)) (S nw nx g, 78 + gn, c2) := fun z c2 h e9 => e9 ▸ K c2 h
    refine g_X9_product__0 hM hV hC hG hR ?_
    refine ⟨?_, ⟨fun q => ?_, fun q => ⟨?_, ?_, fun c_1 h_1 => ⟨fun q => ?_, fun q => ?_⟩⟩⟩⟩
    all_goals first | omega | assumption | (exfalso; simp only [decide_eq_true_eq, decide_eq_false_iff_not] at *; omega) | exact K _ (by first | exact ⟨SD_rf, hR⟩ | exact ⟨h_1.1, Or.inr h_1.2⟩ | assumption | exact ⟨SD_tr h_1.1 (SD_SC h_2), Or.inr (RD_SC h_1.2 h_2)⟩ | exact ⟨SD_tr h_1.1 (SD_SC (SC_tr h_2 h_3)), Or.inr (RD_SC h_1.2 (SC_tr h_2 h_3))⟩) | (refine K1 _ _ (by first | exact ⟨SD_rf, hR⟩ | exact ⟨h_1.1, Or.inr h_1.2⟩ | assumption | exact ⟨SD_tr h_1.1 (SD_SC h_2), Or.inr (RD_SC h_1.2 h_2)⟩ | exact ⟨SD_tr h_1.1 (SD_SC (SC_tr h_2 h_3)), Or.inr (RD_SC h_1.2 (SC_tr h_2 h_3))⟩) ?_; first | rfl | (simp [bz, *]; done) | (split <;> first | rfl | omega))

set_option maxHeartbeats 2000000 in
set_option maxRecDepth 20000 in
theorem g_X9_pBy_0n {G : GG} {j nw nx gn : Nat} {g : Nat → Sh} {c : Nat → Nat → Int} {post : Option AV → AM → Prop} {s : Nat} {x : Nat} {y : Nat} {k : Nat} {P : GD} {T : PT} (hM : ML c P) (hV : GV P) (hC : GC P) (hG : GP P T) (hR : RR P T c)  (hv : (-2147483648 ≤ ((s : Nat) : Int) ∧ ((s : Nat) : Int) < 2147483648) ∧ ((((decide (0 < gN P ∧ 0 ≤ ((s : Nat) : Int) ∧ ((s : Nat) : Int) < ((2 ^ gR P : Nat) : Int))) = false) → post (some (vi ((-1000000)))) (S nw nx g, 78 + gn, c)) ∧ (((decide (0 < gN P ∧ 0 ≤ ((s : Nat) : Int) ∧ ((s : Nat) : Int) < ((2 ^ gR P : Nat) : Int))) = true) → (x < gN P) ∧ (y < gN P) ∧ (∀ c_1 : Nat → Nat → Int, (SD c c_1 ∧ RD P T c_1) → (k < 2147483648) ∧ (((0 ≤ ((k : Nat) : Int)) → (0 < gN P) ∧ (s < 2 ^ gR P) ∧ ((x < gN P) ∧ (s < 2 ^ gR P) ∧ (((lsF P s 60 x) < gN P) ∧ ((loF P s 60 0) < gN P) ∧ (∀ c_2 : Nat → Nat → Int, SC c_1 c_2 → (y < gN P) ∧ (s < 2 ^ gR P) ∧ (((lsF P s 60 y) < gN P) ∧ ((loF P s 60 0) < gN P) ∧ (∀ c_3 : Nat → Nat → Int, SC c_2 c_3 → ((gX P (lsF P s 60 x) (loF P s 60 0)) < gN P) ∧ ((gX P (lsF P s 60 y) (loF P s 60 0)) < gN P) ∧ (k < 2147483648) ∧ (post (some (vi ((if k < 7 then T (gX P (lsF P s 60 x) (loF P s 60 0)) (gX P (lsF P s 60 y) (loF P s 60 0)) k else 0)))) (S nw nx g, 78 + gn, c_3)))))))) ∧ ((¬ (0 ≤ ((k : Nat) : Int))) → post (some (vi ((-1000000)))) (S nw nx g, 78 + gn, c_1))))))) :
    SW G (j + 5) mX9_pBy 0 [some (vr (49)), some (vi (((s : Nat) : Int))), some (vi (((x : Nat) : Int))), some (vi (((y : Nat) : Int))), some (vi (((k : Nat) : Int))), none] [] (S nw nx g, 78 + gn, c) B0 post := by
  refine sw_aload_n (dX9_pBy.at 0 rfl) rfl rfl ?_
  refine sw_iload_n (dX9_pBy.at 1 rfl) rfl rfl ?_
  refine sw_callV (B' := B0) (As := [vi (((s : Nat) : Int))]) (mc := 0) (ms := 0) (dX9_pBy.at 2 rfl) lk_X9_360 (S_lt 49 (by decide)) (S_49 nw nx g) rfl rfl (Nat.le_of_ble_eq_true rfl) rfl (Nat.le_refl _) (Nat.le_refl _) ?_
  refine c_X9_isSet (x := ((s : Nat) : Int)) (j := j + 3) hM hV hv.1 ?_
  replace hv := hv.2
  refine sw_if_eq (tgt := 22) (dX9_pBy.at 3 rfl) (by decide) (bz_rng _) (fun q => ?_) (fun q => ?_)
  · replace hv := hv.1 (bz_0 q)
    refine sw_ldcw (z := (-1000000)) (dX9_pBy.at 11 rfl) kc_X9_318 (by decide) ?_
    exact sw_iret (dX9_pBy.at 12 rfl) rfl (Nat.le_refl _) (Nat.le_refl _) hv
  · replace hv := hv.2 (bz_n0 q)
    refine sw_aload_n (dX9_pBy.at 4 rfl) rfl rfl ?_
    refine sw_iload_n (dX9_pBy.at 5 rfl) rfl rfl ?_
    refine sw_iload_n (dX9_pBy.at 6 rfl) rfl rfl ?_
    refine sw_callV (B' := B0) (As := [vi (((x : Nat) : Int)), vi (((y : Nat) : Int))]) (mc := 0) (ms := 0) (dX9_pBy.at 7 rfl) lk_X9_308 (S_lt 49 (by decide)) (S_49 nw nx g) rfl rfl (Nat.le_of_ble_eq_true rfl) rfl (Nat.le_refl _) (Nat.le_refl _) ?_
    refine c_X9_arePairY (x := x) (y := y) (j := j + 0) hM hV hC hG hR hv.1 hv.2.1 (fun c_1 h_1 => ?_)
    replace hv := hv.2.2 c_1 h_1
    refine sw_if_eq (tgt := 22) (dX9_pBy.at 8 rfl) (by decide) (by decide) (fun q => ?_) (fun q => ?_)
    · exact absurd q (by decide)
    · clear q
      refine sw_iload (dX9_pBy.at 9 rfl) rfl ?_
      refine sw_if_ge (tgt := 26) (dX9_pBy.at 10 rfl) (by decide) (nrng hv.1) (fun q => ?_) (fun q => ?_)
      · replace hv := hv.2.1 q
        refine sw_aload_n (dX9_pBy.at 13 rfl) rfl rfl ?_
        refine sw_iload_n (dX9_pBy.at 14 rfl) rfl rfl ?_
        refine sw_callV (B' := B0) (As := [vi (((s : Nat) : Int))]) (mc := 0) (ms := 0) (dX9_pBy.at 15 rfl) lk_X9_366 (S_lt 49 (by decide)) (S_49 nw nx g) rfl rfl (Nat.le_of_ble_eq_true rfl) rfl (Nat.le_refl _) (Nat.le_refl _) ?_
        refine c_X9_longestOf (s := s) (j := j + 2) (ML_SD hM (SD_tr SD_rf h_1.1)) hV hC hv.1 hv.2.1 ?_
        replace hv := hv.2.2
        refine sw_istore (lo' := [some (vr (49)), some (vi (((s : Nat) : Int))), some (vi (((x : Nat) : Int))), some (vi (((y : Nat) : Int))), some (vi (((k : Nat) : Int))), some (vi (((loF P s 60 0 : Nat) : Int)))]) (dX9_pBy.at 16 rfl) (by decide) rfl ?_
        refine sw_aload_n (dX9_pBy.at 17 rfl) rfl rfl ?_
        refine sw_aload_n (dX9_pBy.at 18 rfl) rfl rfl ?_
        refine sw_aload_n (dX9_pBy.at 19 rfl) rfl rfl ?_
        refine sw_iload_n (dX9_pBy.at 20 rfl) rfl rfl ?_
        refine sw_iload_n (dX9_pBy.at 21 rfl) rfl rfl ?_
        refine sw_callV (B' := B0) (As := [vi (((x : Nat) : Int)), vi (((s : Nat) : Int))]) (mc := 0) (ms := 0) (dX9_pBy.at 22 rfl) lk_X9_363 (S_lt 49 (by decide)) (S_49 nw nx g) rfl rfl (Nat.le_of_ble_eq_true rfl) rfl (Nat.le_refl _) (Nat.le_refl _) ?_
        refine c_X9_leastBy (x := x) (s := s) (j := j + 2) (ML_SD hM (SD_tr SD_rf h_1.1)) hV hC hv.1 hv.2.1 ?_
        replace hv := hv.2.2
        refine sw_iload (dX9_pBy.at 23 rfl) rfl ?_
        refine sw_callV (B' := B0) (As := [vi (((lsF P s 60 x : Nat) : Int)), vi (((loF P s 60 0 : Nat) : Int))]) (mc := 0) (ms := 0) (dX9_pBy.at 24 rfl) lk_X9_237 (S_lt 49 (by decide)) (S_49 nw nx g) rfl rfl (Nat.le_of_ble_eq_true rfl) rfl (Nat.le_refl _) (Nat.le_refl _) ?_
        refine c_X9_product (x := (lsF P s 60 x)) (y := (loF P s 60 0)) (j := j + 3) (ML_SD hM (SD_tr SD_rf h_1.1)) hV hC hv.1 hv.2.1 (fun c_2 h_2 => ?_)
        replace hv := hv.2.2 c_2 h_2
        refine sw_aload_n (dX9_pBy.at 25 rfl) rfl rfl ?_
        refine sw_aload_n (dX9_pBy.at 26 rfl) rfl rfl ?_
        refine sw_iload_n (dX9_pBy.at 27 rfl) rfl rfl ?_
        refine sw_iload_n (dX9_pBy.at 28 rfl) rfl rfl ?_
        refine sw_callV (B' := B0) (As := [vi (((y : Nat) : Int)), vi (((s : Nat) : Int))]) (mc := 0) (ms := 0) (dX9_pBy.at 29 rfl) lk_X9_363 (S_lt 49 (by decide)) (S_49 nw nx g) rfl rfl (Nat.le_of_ble_eq_true rfl) rfl (Nat.le_refl _) (Nat.le_refl _) ?_
        refine c_X9_leastBy (x := y) (s := s) (j := j + 2) (ML_SD hM (SD_tr (SD_tr SD_rf h_1.1) (SD_SC h_2))) hV hC hv.1 hv.2.1 ?_
        replace hv := hv.2.2
        refine sw_iload (dX9_pBy.at 30 rfl) rfl ?_
        refine sw_callV (B' := B0) (As := [vi (((lsF P s 60 y : Nat) : Int)), vi (((loF P s 60 0 : Nat) : Int))]) (mc := 0) (ms := 0) (dX9_pBy.at 31 rfl) lk_X9_237 (S_lt 49 (by decide)) (S_49 nw nx g) rfl rfl (Nat.le_of_ble_eq_true rfl) rfl (Nat.le_refl _) (Nat.le_refl _) ?_
        refine c_X9_product (x := (lsF P s 60 y)) (y := (loF P s 60 0)) (j := j + 3) (ML_SD hM (SD_tr (SD_tr SD_rf h_1.1) (SD_SC h_2))) hV hC hv.1 hv.2.1 (fun c_3 h_3 => ?_)
        replace hv := hv.2.2 c_3 h_3
        refine sw_iload (dX9_pBy.at 32 rfl) rfl ?_
        refine sw_callV (B' := B0) (As := [vi (((gX P (lsF P s 60 x) (loF P s 60 0) : Nat) : Int)), vi (((gX P (lsF P s 60 y) (loF P s 60 0) : Nat) : Int)), vi (((k : Nat) : Int))]) (mc := 0) (ms := 0) (dX9_pBy.at 33 rfl) lk_X9_292 (S_lt 49 (by decide)) (S_49 nw nx g) rfl rfl (Nat.le_of_ble_eq_true rfl) rfl (Nat.le_refl _) (Nat.le_refl _) ?_
        refine c_X9_pAtD (v := (gX P (lsF P s 60 x) (loF P s 60 0))) (w := (gX P (lsF P s 60 y) (loF P s 60 0))) (k := k) (j := j + 3) (ML_SD hM (SD_tr (SD_tr (SD_tr SD_rf h_1.1) (SD_SC h_2)) (SD_SC h_3))) hV hC (PD_SC (PD_SC h_1.2.2 h_2) h_3) hv.1 hv.2.1 hv.2.2.1 ?_
        replace hv := hv.2.2.2
        exact sw_iret (dX9_pBy.at 34 rfl) rfl (Nat.le_refl _) (Nat.le_refl _) hv
      · replace hv := hv.2.2 q
        refine sw_ldcw (z := (-1000000)) (dX9_pBy.at 11 rfl) kc_X9_318 (by decide) ?_
        exact sw_iret (dX9_pBy.at 12 rfl) rfl (Nat.le_refl _) (Nat.le_refl _) hv

set_option maxHeartbeats 2000000 in
set_option maxRecDepth 20000 in
theorem g_X9_pBy_0 {G : GG} {j nw nx gn : Nat} {g : Nat → Sh} {c : Nat → Nat → Int} {post : Option AV → AM → Prop} {s : Int} {x : Int} {y : Int} {k : Int} {P : GD} {T : PT} (hM : ML c P) (hV : GV P) (hC : GC P) (hG : GP P T) (hR : RR P T c)  (hv : (-2147483648 ≤ s ∧ s < 2147483648) ∧ ((((decide (0 < gN P ∧ 0 ≤ s ∧ s < ((2 ^ gR P : Nat) : Int))) = false) → post (some (vi ((-1000000)))) (S nw nx g, 78 + gn, c)) ∧ (((decide (0 < gN P ∧ 0 ≤ s ∧ s < ((2 ^ gR P : Nat) : Int))) = true) → (-2147483648 ≤ x ∧ x < 2147483648) ∧ (-2147483648 ≤ y ∧ y < 2147483648) ∧ (∀ c_1 : Nat → Nat → Int, (SD c c_1 ∧ RR P T c_1) → (((decide ((0 ≤ x ∧ x < (gN P : Int)) ∧ 0 ≤ y ∧ y < (gN P : Int))) = false) → post (some (vi ((-1000000)))) (S nw nx g, 78 + gn, c_1)) ∧ (((decide ((0 ≤ x ∧ x < (gN P : Int)) ∧ 0 ≤ y ∧ y < (gN P : Int))) = true) → (-2147483648 ≤ k ∧ k < 2147483648) ∧ (((0 ≤ k) → SW G (j + 5) mX9_pBy 28 [some (vr (49)), some (vi (s)), some (vi (x)), some (vi (y)), some (vi (k)), none] [vi (s), vr (49)] (S nw nx g, 78 + gn, c_1) B0 post) ∧ ((¬ (0 ≤ k)) → post (some (vi ((-1000000)))) (S nw nx g, 78 + gn, c_1)))))))) :
    SW G (j + 5) mX9_pBy 0 [some (vr (49)), some (vi (s)), some (vi (x)), some (vi (y)), some (vi (k)), none] [] (S nw nx g, 78 + gn, c) B0 post := by
  refine sw_aload_n (dX9_pBy.at 0 rfl) rfl rfl ?_
  refine sw_iload_n (dX9_pBy.at 1 rfl) rfl rfl ?_
  refine sw_callV (B' := B0) (As := [vi (s)]) (mc := 0) (ms := 0) (dX9_pBy.at 2 rfl) lk_X9_360 (S_lt 49 (by decide)) (S_49 nw nx g) rfl rfl (Nat.le_of_ble_eq_true rfl) rfl (Nat.le_refl _) (Nat.le_refl _) ?_
  refine c_X9_isSet (x := s) (j := j + 3) hM hV hv.1 ?_
  replace hv := hv.2
  refine sw_if_eq (tgt := 22) (dX9_pBy.at 3 rfl) (by decide) (bz_rng _) (fun q => ?_) (fun q => ?_)
  · replace hv := hv.1 (bz_0 q)
    refine sw_ldcw (z := (-1000000)) (dX9_pBy.at 11 rfl) kc_X9_318 (by decide) ?_
    exact sw_iret (dX9_pBy.at 12 rfl) rfl (Nat.le_refl _) (Nat.le_refl _) hv
  · replace hv := hv.2 (bz_n0 q)
    refine sw_aload_n (dX9_pBy.at 4 rfl) rfl rfl ?_
    refine sw_iload_n (dX9_pBy.at 5 rfl) rfl rfl ?_
    refine sw_iload_n (dX9_pBy.at 6 rfl) rfl rfl ?_
    refine sw_callV (B' := B0) (As := [vi (x), vi (y)]) (mc := 0) (ms := 0) (dX9_pBy.at 7 rfl) lk_X9_308 (S_lt 49 (by decide)) (S_49 nw nx g) rfl rfl (Nat.le_of_ble_eq_true rfl) rfl (Nat.le_refl _) (Nat.le_refl _) ?_
    refine c_X9_arePairG (x := x) (y := y) (j := j + 0) hM hV hC hG hR hv.1 hv.2.1 (fun c_1 h_1 => ?_)
    replace hv := hv.2.2 c_1 h_1
    refine sw_if_eq (tgt := 22) (dX9_pBy.at 8 rfl) (by decide) (bz_rng _) (fun q => ?_) (fun q => ?_)
    · replace hv := hv.1 (bz_0 q)
      refine sw_ldcw (z := (-1000000)) (dX9_pBy.at 11 rfl) kc_X9_318 (by decide) ?_
      exact sw_iret (dX9_pBy.at 12 rfl) rfl (Nat.le_refl _) (Nat.le_refl _) hv
    · replace hv := hv.2 (bz_n0 q)
      refine sw_iload (dX9_pBy.at 9 rfl) rfl ?_
      refine sw_if_ge (tgt := 26) (dX9_pBy.at 10 rfl) (by decide) hv.1 (fun q => ?_) (fun q => ?_)
      · replace hv := hv.2.1 q
        refine sw_aload_n (dX9_pBy.at 13 rfl) rfl rfl ?_
        refine sw_iload_n (dX9_pBy.at 14 rfl) rfl rfl ?_
        exact hv
      · replace hv := hv.2.2 q
        refine sw_ldcw (z := (-1000000)) (dX9_pBy.at 11 rfl) kc_X9_318 (by decide) ?_
        exact sw_iret (dX9_pBy.at 12 rfl) rfl (Nat.le_refl _) (Nat.le_refl _) hv

set_option maxHeartbeats 4000000 in
theorem c_X9_pBy {G : GG} {j nw nx gn : Nat} {g : Nat → Sh} {c : Nat → Nat → Int} {post : Option AV → AM → Prop} {P : GD} {T : PT} {s x y k : Int} (hM : ML c P) (hV : GV P) (hC : GC P) (hG : GP P T) (hR : RR P T c) (p1 : -2147483648 ≤ s ∧ s < 2147483648) (p2 : -2147483648 ≤ x ∧ x < 2147483648) (p3 : -2147483648 ≤ y ∧ y < 2147483648) (p4 : -2147483648 ≤ k ∧ k < 2147483648) (K : ∀ c2 : Nat → Nat → Int, (SD c c2 ∧ RR P T c2) → post (some (vi (q_pBy P T s x y k))) (S nw nx g, 78 + gn, c2)) : SM G (j + 6) mX9_pBy [vr (49), vi (s), vi (x), vi (y), vi (k)] (S nw nx g, 78 + gn, c) 0 0 post := by
  refine sm_of wX9_pBy rfl (Nat.le_of_ble_eq_true rfl) ?_
  have hN60 := GV_N hV
  have hR5 := GV_R hV
  by_cases hv : (0 < gN P ∧ 0 ≤ s ∧ s < ((2 ^ gR P : Nat) : Int)) ∧ ((0 ≤ x ∧ x < (gN P : Int)) ∧ 0 ≤ y ∧ y < (gN P : Int)) ∧ 0 ≤ k
  · obtain ⟨s, rfl⟩ : ∃ n : Nat, s = (n : Int) := ⟨s.toNat, by omega⟩
    obtain ⟨x, rfl⟩ : ∃ n : Nat, x = (n : Int) := ⟨x.toNat, by omega⟩
    obtain ⟨y, rfl⟩ : ∃ n : Nat, y = (n : Int) := ⟨y.toNat, by omega⟩
    obtain ⟨k, rfl⟩ : ∃ n : Nat, k = (n : Int) := ⟨k.toNat, by omega⟩
    have e : q_pBy P T ((s : Nat) : Int) ((x : Nat) : Int) ((y : Nat) : Int) ((k : Nat) : Int) = if k < 8 then T (gX P (lsF P s 60 x) (loF P s 60 0)) (gX P (lsF P s 60 y) (loF P s 60 0)) k else 0 := by
      rw [q_pBy, if_pos hv]
      simp only [Int.toNat_natCast]
    rw [e] at K
    have K1 : ∀ (z : Int) (c2 : Nat → Nat → Int), ((SD c c2 ∧ RR P T c2)) → z = (if k < 8 then T (gX P (lsF P s 60 x) (loF P s 60 0)) (gX P (lsF P s 60 y) (loF P s 60 0)) k else 0) → post (some (vi z)) (S nw nx g, 78 + gn, c2) := fun z c2 h e9 => e9 ▸ K c2 h
    have f1 := lsF_lt hC.1.1 hV (s := s) 60 x (by omega)
    have f2 := lsF_lt hC.1.1 hV (s := s) 60 y (by omega)
    have f3 := loF_lt hV (s := s) (by omega) 60 0 (by omega)
    have f4 := hV.2.2.2.2.1 _ _ f1 f3
    have f5 := hV.2.2.2.2.1 _ _ f2 f3
    refine g_X9_pBy_0n hM hV hC hG hR ?_
    refine ⟨?_, ⟨fun q => ?_, fun q => ⟨?_, ?_, fun c_1 h_1 => ⟨?_, ⟨fun q => ⟨?_, ?_, ⟨?_, ?_, ⟨?_, ?_, fun c_2 h_2 => ⟨?_, ?_, ⟨?_, ?_, fun c_3 h_3 => ⟨?_, ?_, ?_, ?_⟩⟩⟩⟩⟩⟩, fun q => ?_⟩⟩⟩⟩⟩
    all_goals first | omega | assumption | (exfalso; simp only [decide_eq_true_eq, decide_eq_false_iff_not] at *; omega) | (rw [T_78 hV hG f4 f5]; exact K _ (by first | exact ⟨SD_rf, hR⟩ | exact ⟨h_1.1, Or.inr h_1.2⟩ | assumption | exact ⟨SD_tr h_1.1 (SD_SC h_2), Or.inr (RD_SC h_1.2 h_2)⟩ | exact ⟨SD_tr h_1.1 (SD_SC (SC_tr h_2 h_3)), Or.inr (RD_SC h_1.2 (SC_tr h_2 h_3))⟩)) | exact K _ (by first | exact ⟨SD_rf, hR⟩ | exact ⟨h_1.1, Or.inr h_1.2⟩ | assumption | exact ⟨SD_tr h_1.1 (SD_SC h_2), Or.inr (RD_SC h_1.2 h_2)⟩ | exact ⟨SD_tr h_1.1 (SD_SC (SC_tr h_2 h_3)), Or.inr (RD_SC h_1.2 (SC_tr h_2 h_3))⟩) | (refine K1 _ _ (by first | exact ⟨SD_rf, hR⟩ | exact ⟨h_1.1, Or.inr h_1.2⟩ | assumption | exact ⟨SD_tr h_1.1 (SD_SC h_2), Or.inr (RD_SC h_1.2 h_2)⟩ | exact ⟨SD_tr h_1.1 (SD_SC (SC_tr h_2 h_3)), Or.inr (RD_SC h_1.2 (SC_tr h_2 h_3))⟩) ?_; first | rfl | (simp [bz, *]; done) | (split <;> first | rfl | omega))
  · have e : q_pBy P T s x y k = (-1000000) := by rw [q_pBy, if_neg hv]
    rw [e] at K
    have K1 : ∀ (z : Int) (c2 : Nat → Nat → Int), ((SD c c2 ∧ RR P T c2)) → z = ((-1000000)) → post (some (vi z)) (S nw nx g, 78 + gn, c2) := fun z c2 h e9 => e9 ▸ K c2 h
    refine g_X9_pBy_0 hM hV hC hG hR ?_
    refine ⟨?_, ⟨fun q => ?_, fun q => ⟨?_, ?_, fun c_1 h_1 => ⟨fun q => ?_, fun q => ⟨?_, ⟨fun q => ?_, fun q => ?_⟩⟩⟩⟩⟩⟩
    all_goals first | omega | assumption | (exfalso; simp only [decide_eq_true_eq, decide_eq_false_iff_not] at *; omega) | exact K _ (by first | exact ⟨SD_rf, hR⟩ | exact ⟨h_1.1, Or.inr h_1.2⟩ | assumption | exact ⟨SD_tr h_1.1 (SD_SC h_2), Or.inr (RD_SC h_1.2 h_2)⟩ | exact ⟨SD_tr h_1.1 (SD_SC (SC_tr h_2 h_3)), Or.inr (RD_SC h_1.2 (SC_tr h_2 h_3))⟩) | (refine K1 _ _ (by first | exact ⟨SD_rf, hR⟩ | exact ⟨h_1.1, Or.inr h_1.2⟩ | assumption | exact ⟨SD_tr h_1.1 (SD_SC h_2), Or.inr (RD_SC h_1.2 h_2)⟩ | exact ⟨SD_tr h_1.1 (SD_SC (SC_tr h_2 h_3)), Or.inr (RD_SC h_1.2 (SC_tr h_2 h_3))⟩) ?_; first | rfl | (simp [bz, *]; done) | (split <;> first | rfl | omega))

