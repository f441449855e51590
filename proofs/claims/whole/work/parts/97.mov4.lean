/-! rows as numbers: they grow -/
theorem rowF_add {P : GD} (hV : GV P) : ∀ n x l a, rowF P n x l a = a * 8 ^ n + rowF P n x l 0 := by
  intro n
  induction n with
  | zero => intro x l a; simp [rowF]
  | succ n ih =>
    intro x l a
    have h8 := rs8 hV x l
    rw [rowF, rowF, or8 h8, or8 h8, ih _ _ (a * 8 + _), ih _ _ (0 * 8 + _), Nat.pow_succ, Nat.zero_mul, Nat.zero_add, Nat.add_mul, Nat.mul_assoc, Nat.mul_comm 8]
    omega
theorem rowF_pre {P : GD} (hV : GV P) {x s k : Nat} (hk : k < gRF P x s) (hs : s < gR P) (n : Nat) : rowF P (n + 1) x (preF P x s + k) 0 = s * 8 ^ n + rowF P n (gX P (s + 1) x) k 0 := by
  have := rsF_pre hk (gR P - 1) 0 (by omega) (by omega) (by omega)
  rw [show preF P x 0 = 0 from rfl, Nat.sub_zero] at this
  have h8 := rs8 hV x (preF P x s + k)
  rw [this] at h8
  rw [rowF, this, or8 h8, rowF_add hV]; simp
theorem rowF_8 {P : GD} (hV : GV P) (n x l : Nat) : rowF P n x l 0 < 8 ^ n := by
  obtain ⟨r, hr, e⟩ := rowF_form hV n x l 0
  omega
theorem rowF_mono {P : GD} (hV : GV P) (hC : GC P) (hS : hSp P) : ∀ L x, gL P x = L → x < gN P → ∀ k l, k < l → l < gW P x → rowF P L x k 0 < rowF P L x l 0 := by
  intro L
  induction L with
  | zero =>
    intro x hL hx k l hk hl
    have e : x = 0 := by
      rcases Nat.eq_zero_or_pos x with e | e
      · exact e
      · have := (hC.2.1.2 x e hx).1; omega
    rw [e, hS.1] at hl
    omega
  | succ L ih =>
    intro x hL hx k l hk hl
    have h0 : 0 < x := by
      rcases Nat.eq_zero_or_pos x with e | e
      · rw [e, hC.2.1.1] at hL; omega
      · exact e
    have hp := (hS.2 x h0 hx).2
    rw [← hp] at hl
    have hk2 : k < preF P x (gR P) := by omega
    obtain ⟨s, k', hs, hk', rfl⟩ := pre_ex _ _ hk2
    obtain ⟨t, l', ht, hl', rfl⟩ := pre_ex _ _ hl
    rw [rowF_pre hV hk' hs, rowF_pre hV hl' ht]
    rcases Nat.lt_trichotomy s t with q | q | q
    · have h1 := rowF_8 hV L (gX P (s + 1) x) k'
      have h2 : (s + 1) * 8 ^ L ≤ t * 8 ^ L := Nat.mul_le_mul_right _ q
      rw [Nat.add_mul, Nat.one_mul] at h2
      omega
    · subst q
      have bs : (gF P x).testBit s = true := by
        by_cases q : (gF P x).testBit s = true
        · exact q
        · rw [gRF, if_neg q] at hk'; omega
      obtain ⟨s1, s2, s3, _⟩ := dn_x hV hC hx hs bs
      have := ih _ (by omega) s1 k' l' (by omega) (by omega)
      omega
    · have h1 := preF_le (P := P) (x := x) (s - (t + 1)) (t + 1)
      rw [show t + 1 + (s - (t + 1)) = s by omega, preF] at h1
      omega
def fdF (rh : Nat → Nat) (r : Nat) : Nat → Int
  | 0 => -1
  | n + 1 => if rh n = r then ((n : Nat) : Int) else fdF rh r n
theorem fdF_no {rh : Nat → Nat} {r : Nat} : ∀ n, (∀ k, k < n → rh k ≠ r) → fdF rh r n = -1 := by
  intro n
  induction n with
  | zero => intro _; rfl
  | succ n ih => intro h; rw [fdF, if_neg (h n (by omega)), ih (fun k hk => h k (by omega))]
theorem fdF_yes {rh : Nat → Nat} {r : Nat} : ∀ n l, l < n → rh l = r → (∀ k, l < k → k < n → rh k ≠ r) → fdF rh r n = ((l : Nat) : Int) := by
  intro n
  induction n with
  | zero => intro l h; omega
  | succ n ih =>
    intro l hl he h
    rw [fdF]
    by_cases q : l = n
    · rw [← q, if_pos he]
    · rw [if_neg (h n (by omega) (by omega)), ih l (by omega) he (fun k a b => h k a (by omega))]
theorem fdF_cases (rh : Nat → Nat) (r : Nat) : ∀ n, (fdF rh r n = -1 ∧ ∀ k, k < n → rh k ≠ r) ∨ ∃ l, l < n ∧ rh l = r ∧ fdF rh r n = ((l : Nat) : Int) := by
  intro n
  induction n with
  | zero => left; exact ⟨rfl, fun k h => by omega⟩
  | succ n ih =>
    rw [fdF]
    by_cases q : rh n = r
    · right; exact ⟨n, by omega, q, if_pos q⟩
    · rw [if_neg q]
      rcases ih with ⟨a, b⟩ | ⟨l, a, b, c⟩
      · left
        refine ⟨a, fun k hk => ?_⟩
        by_cases e : k = n
        · rw [e]; exact q
        · exact b k (by omega)
      · right; exact ⟨l, by omega, b, c⟩
set_option maxHeartbeats 2000000 in
set_option maxRecDepth 20000 in
theorem g_X5_find_13 {G : GG} {j nw nx gn : Nat} {g : Nat → Sh} {c : Nat → Nat → Int} {post : Option AV → AM → Prop} {r : Nat} {M : Nat} {rh : Nat → Nat} {lo : Nat} {hi : Nat} {i : Nat} (hMn : c 11 3 = ((M : Nat) : Int)) (hM2 : 0 < M ∧ M ≤ 240) (hR5 : ∀ k, k < M → c 12 k = ((rh k : Nat) : Int)) (hRb : ∀ k, k < M → rh k < 2 ^ 40)  (hv : (i < 2147483648) ∧ (((240 ≤ i) → (lo < M) ∧ ((rh lo < 9223372036854775808) ∧ (r < 9223372036854775808) ∧ (((rh lo ≠ r) → post (some (vi ((-1)))) (S nw nx g, 78 + gn, c)) ∧ ((rh lo = r) → post (some (vi (((lo : Nat) : Int)))) (S nw nx g, 78 + gn, c))))) ∧ ((¬ (240 ≤ i)) → (lo < 2147483648) ∧ (hi < 2147483648) ∧ (((hi ≤ lo) → (lo < M) ∧ ((rh lo < 9223372036854775808) ∧ (r < 9223372036854775808) ∧ (((rh lo ≠ r) → post (some (vi ((-1)))) (S nw nx g, 78 + gn, c)) ∧ ((rh lo = r) → post (some (vi (((lo : Nat) : Int)))) (S nw nx g, 78 + gn, c))))) ∧ ((¬ (hi ≤ lo)) → (lo + hi < 2147483648) ∧ (((lo + hi) / 2 < M) ∧ ((rh ((lo + hi) / 2) < 9223372036854775808) ∧ (r < 9223372036854775808) ∧ (((r ≤ rh ((lo + hi) / 2)) → SW G (j + 0) mX5_find 13 [some (vr (11)), some (vl (((r : Nat) : Int))), none, some (vi (((lo : Nat) : Int))), some (vi ((((lo + hi) / 2 : Nat) : Int))), some (vi (((i + 1 : Nat) : Int))), none] [] (S nw nx g, 78 + gn, c) B0 post) ∧ ((¬ (r ≤ rh ((lo + hi) / 2))) → SW G (j + 0) mX5_find 13 [some (vr (11)), some (vl (((r : Nat) : Int))), none, some (vi (((((lo + hi) / 2) + 1 : Nat) : Int))), some (vi (((hi : Nat) : Int))), some (vi (((i + 1 : Nat) : Int))), none] [] (S nw nx g, 78 + gn, c) B0 post))))))))) :
    SW G (j + 0) mX5_find 13 [some (vr (11)), some (vl (((r : Nat) : Int))), none, some (vi (((lo : Nat) : Int))), some (vi (((hi : Nat) : Int))), some (vi (((i : Nat) : Int))), none] [] (S nw nx g, 78 + gn, c) B0 post := by
  refine sw_iload (dX5_find.at 9 rfl) rfl ?_
  refine sw_sipush (dX5_find.at 10 rfl) (by decide) ?_
  refine sw_icmpN_ge i 240 (tgt := 65) (dX5_find.at 11 rfl) (by decide) hv.1 (by decide) (fun q => ?_) (fun q => ?_)
  · replace hv := hv.2.1 q
    refine sw_aload_n (dX5_find.at 37 rfl) rfl rfl ?_
    refine sw_getR (dX5_find.at 38 rfl) fp_X5_9 (S_lt 11 (by decide)) (S_11 nw nx g) rfl rfl ?_
    refine sw_iload_n (dX5_find.at 39 rfl) rfl rfl ?_
    refine sw_laldN lo (w := ((rh lo : Nat) : Int)) (dX5_find.at 40 rfl) (S_lt 12 (by decide)) (S_12 nw nx g) (by decide) (Nat.lt_of_lt_of_le hv.1 hM2.2) (hR5 _ hv.1) ?_
    replace hv := hv.2
    refine sw_lload_n (dX5_find.at 41 rfl) rfl rfl ?_
    refine sw_lcmpN_ne (rh lo) r (tgt := 80) (dX5_find.at 42 rfl) (dX5_find.at 43 rfl) (by decide) hv.1 hv.2.1 (fun q => ?_) (fun q => ?_)
    · replace hv := hv.2.2.1 q
      refine sw_iconst (dX5_find.at 46 rfl) ?_
      exact sw_iret (dX5_find.at 47 rfl) rfl (Nat.le_refl _) (Nat.le_refl _) hv
    · replace hv := hv.2.2.2 q
      refine sw_iload_n (dX5_find.at 44 rfl) rfl rfl ?_
      refine sw_goto (tgt := 81) (dX5_find.at 45 rfl) (by decide) ?_
      exact sw_iret (dX5_find.at 47 rfl) rfl (Nat.le_refl _) (Nat.le_refl _) hv
  · replace hv := hv.2.2 q
    refine sw_iload_n (dX5_find.at 12 rfl) rfl rfl ?_
    refine sw_iload (dX5_find.at 13 rfl) rfl ?_
    refine sw_icmpN_ge lo hi (tgt := 65) (dX5_find.at 14 rfl) (by decide) hv.1 hv.2.1 (fun q => ?_) (fun q => ?_)
    · replace hv := hv.2.2.1 q
      refine sw_aload_n (dX5_find.at 37 rfl) rfl rfl ?_
      refine sw_getR (dX5_find.at 38 rfl) fp_X5_9 (S_lt 11 (by decide)) (S_11 nw nx g) rfl rfl ?_
      refine sw_iload_n (dX5_find.at 39 rfl) rfl rfl ?_
      refine sw_laldN lo (w := ((rh lo : Nat) : Int)) (dX5_find.at 40 rfl) (S_lt 12 (by decide)) (S_12 nw nx g) (by decide) (Nat.lt_of_lt_of_le hv.1 hM2.2) (hR5 _ hv.1) ?_
      replace hv := hv.2
      refine sw_lload_n (dX5_find.at 41 rfl) rfl rfl ?_
      refine sw_lcmpN_ne (rh lo) r (tgt := 80) (dX5_find.at 42 rfl) (dX5_find.at 43 rfl) (by decide) hv.1 hv.2.1 (fun q => ?_) (fun q => ?_)
      · replace hv := hv.2.2.1 q
        refine sw_iconst (dX5_find.at 46 rfl) ?_
        exact sw_iret (dX5_find.at 47 rfl) rfl (Nat.le_refl _) (Nat.le_refl _) hv
      · replace hv := hv.2.2.2 q
        refine sw_iload_n (dX5_find.at 44 rfl) rfl rfl ?_
        refine sw_goto (tgt := 81) (dX5_find.at 45 rfl) (by decide) ?_
        exact sw_iret (dX5_find.at 47 rfl) rfl (Nat.le_refl _) (Nat.le_refl _) hv
    · replace hv := hv.2.2.2 q
      refine sw_iload_n (dX5_find.at 15 rfl) rfl rfl ?_
      refine sw_iload (dX5_find.at 16 rfl) rfl ?_
      refine sw_iadd (dX5_find.at 17 rfl) ?_
      refine sw_topI (y := ((lo + hi : Nat) : Int)) (by first | rfl | (congr 1)) ?_
      refine sw_iconst (dX5_find.at 18 rfl) ?_
      refine sw_idivN (lo + hi) 2 (dX5_find.at 19 rfl) (by decide) (by decide) hv.1 ?_
      replace hv := hv.2
      refine sw_istore (lo' := [some (vr (11)), some (vl (((r : Nat) : Int))), none, some (vi (((lo : Nat) : Int))), some (vi (((hi : Nat) : Int))), some (vi (((i : Nat) : Int))), some (vi ((((lo + hi) / 2 : Nat) : Int)))]) (dX5_find.at 20 rfl) (by decide) rfl ?_
      refine sw_aload_n (dX5_find.at 21 rfl) rfl rfl ?_
      refine sw_getR (dX5_find.at 22 rfl) fp_X5_9 (S_lt 11 (by decide)) (S_11 nw nx g) rfl rfl ?_
      refine sw_iload (dX5_find.at 23 rfl) rfl ?_
      refine sw_laldN ((lo + hi) / 2) (w := ((rh ((lo + hi) / 2) : Nat) : Int)) (dX5_find.at 24 rfl) (S_lt 12 (by decide)) (S_12 nw nx g) (by decide) (Nat.lt_of_lt_of_le hv.1 hM2.2) (hR5 _ hv.1) ?_
      replace hv := hv.2
      refine sw_lload_n (dX5_find.at 25 rfl) rfl rfl ?_
      refine sw_lcmpN_ge (rh ((lo + hi) / 2)) r (tgt := 55) (dX5_find.at 26 rfl) (dX5_find.at 27 rfl) (by decide) hv.1 hv.2.1 (fun q => ?_) (fun q => ?_)
      · replace hv := hv.2.2.1 q
        refine sw_iload (dX5_find.at 33 rfl) rfl ?_
        refine sw_istore (lo' := [some (vr (11)), some (vl (((r : Nat) : Int))), none, some (vi (((lo : Nat) : Int))), some (vi ((((lo + hi) / 2 : Nat) : Int))), some (vi (((i : Nat) : Int))), some (vi ((((lo + hi) / 2 : Nat) : Int)))]) (dX5_find.at 34 rfl) (by decide) rfl ?_
        refine sw_iinc (lo' := [some (vr (11)), some (vl (((r : Nat) : Int))), none, some (vi (((lo : Nat) : Int))), some (vi ((((lo + hi) / 2 : Nat) : Int))), some (vi (((i + 1 : Nat) : Int))), some (vi ((((lo + hi) / 2 : Nat) : Int)))]) (dX5_find.at 35 rfl) rfl (by decide) rfl ?_
        refine sw_goto (tgt := 13) (dX5_find.at 36 rfl) (by decide) ?_
        exact sw_mask (bs := [true, true, false, true, true, true, false]) hv
      · replace hv := hv.2.2.2 q
        refine sw_iload (dX5_find.at 28 rfl) rfl ?_
        refine sw_iconst (dX5_find.at 29 rfl) ?_
        refine sw_iadd (dX5_find.at 30 rfl) ?_
        refine sw_topI (y := ((((lo + hi) / 2) + 1 : Nat) : Int)) (by first | rfl | (congr 1)) ?_
        refine sw_istore_n (lo' := [some (vr (11)), some (vl (((r : Nat) : Int))), none, some (vi (((((lo + hi) / 2) + 1 : Nat) : Int))), some (vi (((hi : Nat) : Int))), some (vi (((i : Nat) : Int))), some (vi ((((lo + hi) / 2 : Nat) : Int)))]) (dX5_find.at 31 rfl) rfl (by decide) rfl ?_
        refine sw_goto (tgt := 59) (dX5_find.at 32 rfl) (by decide) ?_
        refine sw_iinc (lo' := [some (vr (11)), some (vl (((r : Nat) : Int))), none, some (vi (((((lo + hi) / 2) + 1 : Nat) : Int))), some (vi (((hi : Nat) : Int))), some (vi (((i + 1 : Nat) : Int))), some (vi ((((lo + hi) / 2 : Nat) : Int)))]) (dX5_find.at 35 rfl) rfl (by decide) rfl ?_
        refine sw_goto (tgt := 13) (dX5_find.at 36 rfl) (by decide) ?_
        exact sw_mask (bs := [true, true, false, true, true, true, false]) hv

set_option maxHeartbeats 4000000 in
theorem lp_X5_find {G : GG} {j nw nx gn : Nat} {g : Nat → Sh} {c : Nat → Nat → Int} {post : Option AV → AM → Prop} {M r : Nat} {rh : Nat → Nat} (hMn : c 11 3 = ((M : Nat) : Int)) (hM2 : 0 < M ∧ M ≤ 240) (hR5 : ∀ k, k < M → c 12 k = ((rh k : Nat) : Int)) (hRb : ∀ k, k < M → rh k < 2 ^ 40) (hmo : ∀ k l, k < l → l < M → rh k < rh l) (hr : r < 2 ^ 62) (K : post (some (vi (fdF rh r M))) (S nw nx g, 78 + gn, c)) : ∀ (n lo hi i : Nat), hi - lo ≤ n → lo ≤ hi → hi < M → hi - lo + i ≤ 239 → (∀ k, k < M → rh k = r → lo ≤ k ∧ k ≤ hi) → SW G (j + 0) mX5_find 13 [some (vr (11)), some (vl (((r : Nat) : Int))), none, some (vi (((lo : Nat) : Int))), some (vi (((hi : Nat) : Int))), some (vi (((i : Nat) : Int))), none] [] (S nw nx g, 78 + gn, c) B0 post := by
  have K1 : ∀ z : Int, z = fdF rh r M → post (some (vi z)) (S nw nx g, 78 + gn, c) := fun z h => h ▸ K
  intro n
  induction n with
  | zero =>
    intro lo hi i h1 h2 h3 h4 h5
    have e : lo = hi := by omega
    subst e
    have b1 := hRb lo h3
    by_cases q : rh lo = r
    · have e2 := fdF_yes M lo h3 q (fun k a b => by have := hmo lo k a b; omega)
      refine g_X5_find_13 hMn hM2 hR5 hRb ?_
      refine ⟨?_, ⟨fun q => ⟨?_, ⟨?_, ?_, ⟨fun q => ?_, fun q => ?_⟩⟩⟩, fun q => ⟨?_, ?_, ⟨fun q => ⟨?_, ⟨?_, ?_, ⟨fun q => ?_, fun q => ?_⟩⟩⟩, fun q => ⟨?_, ⟨?_, ⟨?_, ?_, ⟨fun q => ?_, fun q => ?_⟩⟩⟩⟩⟩⟩⟩⟩
      all_goals first | omega | exact K1 _ e2.symm | (exfalso; omega)
    · have e2 : fdF rh r M = -1 := fdF_no M (fun k hk hh => by have := h5 k hk hh; have e3 : k = lo := (by omega); rw [e3] at hh; exact q hh)
      refine g_X5_find_13 hMn hM2 hR5 hRb ?_
      refine ⟨?_, ⟨fun q => ⟨?_, ⟨?_, ?_, ⟨fun q => ?_, fun q => ?_⟩⟩⟩, fun q => ⟨?_, ?_, ⟨fun q => ⟨?_, ⟨?_, ?_, ⟨fun q => ?_, fun q => ?_⟩⟩⟩, fun q => ⟨?_, ⟨?_, ⟨?_, ?_, ⟨fun q => ?_, fun q => ?_⟩⟩⟩⟩⟩⟩⟩⟩
      all_goals first | omega | exact K1 _ e2.symm | (exfalso; omega)
  | succ n ih =>
    intro lo hi i h1 h2 h3 h4 h5
    by_cases e : lo = hi
    · subst e
      exact ih lo lo i (by omega) h2 h3 h4 h5
    · have b1 := hRb ((lo + hi) / 2) (by omega)
      refine g_X5_find_13 hMn hM2 hR5 hRb ?_
      by_cases q : rh ((lo + hi) / 2) < r
      · have hn := ih ((lo + hi) / 2 + 1) hi (i + 1) (by omega) (by omega) h3 (by omega) (fun k hk hh => ⟨by
          rcases Nat.lt_or_ge ((lo + hi) / 2) k with z | z
          · exact z
          · rcases Nat.lt_or_eq_of_le z with z | z
            · have := hmo k _ z (by omega); omega
            · rw [z] at hh; omega, (h5 k hk hh).2⟩)
        refine ⟨?_, ⟨fun q => ⟨?_, ⟨?_, ?_, ⟨fun q => ?_, fun q => ?_⟩⟩⟩, fun q => ⟨?_, ?_, ⟨fun q => ⟨?_, ⟨?_, ?_, ⟨fun q => ?_, fun q => ?_⟩⟩⟩, fun q => ⟨?_, ⟨?_, ⟨?_, ?_, ⟨fun q => ?_, fun q => ?_⟩⟩⟩⟩⟩⟩⟩⟩
        all_goals first | omega | exact hn | (exfalso; omega)
      · have hn := ih lo ((lo + hi) / 2) (i + 1) (by omega) (by omega) (by omega) (by omega) (fun k hk hh => ⟨(h5 k hk hh).1, by
          rcases Nat.lt_or_ge ((lo + hi) / 2) k with z | z
          · have := hmo _ k z hk; omega
          · exact z⟩)
        refine ⟨?_, ⟨fun q => ⟨?_, ⟨?_, ?_, ⟨fun q => ?_, fun q => ?_⟩⟩⟩, fun q => ⟨?_, ?_, ⟨fun q => ⟨?_, ⟨?_, ?_, ⟨fun q => ?_, fun q => ?_⟩⟩⟩, fun q => ⟨?_, ⟨?_, ⟨?_, ?_, ⟨fun q => ?_, fun q => ?_⟩⟩⟩⟩⟩⟩⟩⟩
        all_goals first | omega | exact hn | (exfalso; omega)

set_option maxHeartbeats 2000000 in
set_option maxRecDepth 20000 in
theorem g_X5_find_0 {G : GG} {j nw nx gn : Nat} {g : Nat → Sh} {c : Nat → Nat → Int} {post : Option AV → AM → Prop} {r : Nat} {M : Nat} {rh : Nat → Nat} (hMn : c 11 3 = ((M : Nat) : Int)) (hM2 : 0 < M ∧ M ≤ 240) (hR5 : ∀ k, k < M → c 12 k = ((rh k : Nat) : Int)) (hRb : ∀ k, k < M → rh k < 2 ^ 40)  (hv : (1 ≤ M) ∧ (SW G (j + 0) mX5_find 13 [some (vr (11)), some (vl (((r : Nat) : Int))), none, some (vi (0)), some (vi (((M - 1 : Nat) : Int))), some (vi (0)), none] [] (S nw nx g, 78 + gn, c) B0 post)) :
    SW G (j + 0) mX5_find 0 [some (vr (11)), some (vl (((r : Nat) : Int))), none, none, none, none, none] [] (S nw nx g, 78 + gn, c) B0 post := by
  refine sw_iconst (dX5_find.at 0 rfl) ?_
  refine sw_istore_n (lo' := [some (vr (11)), some (vl (((r : Nat) : Int))), none, some (vi (0)), none, none, none]) (dX5_find.at 1 rfl) rfl (by decide) rfl ?_
  refine sw_aload_n (dX5_find.at 2 rfl) rfl rfl ?_
  refine sw_getIE (w := ((M : Nat) : Int)) (dX5_find.at 3 rfl) fp_X5_26 (S_lt 11 (by decide)) (S_11 nw nx g) rfl hMn ?_
  refine sw_iconst (dX5_find.at 4 rfl) ?_
  refine sw_isub (dX5_find.at 5 rfl) ?_
  refine sw_topI (y := ((M - 1 : Nat) : Int)) (congrArg _ (Int.ofNat_sub hv.1).symm) ?_
  replace hv := hv.2
  refine sw_istore (lo' := [some (vr (11)), some (vl (((r : Nat) : Int))), none, some (vi (0)), some (vi (((M - 1 : Nat) : Int))), none, none]) (dX5_find.at 6 rfl) (by decide) rfl ?_
  refine sw_iconst (dX5_find.at 7 rfl) ?_
  refine sw_istore (lo' := [some (vr (11)), some (vl (((r : Nat) : Int))), none, some (vi (0)), some (vi (((M - 1 : Nat) : Int))), some (vi (0)), none]) (dX5_find.at 8 rfl) (by decide) rfl ?_
  exact hv

set_option maxHeartbeats 2000000 in
theorem c_X5_find {G : GG} {j nw nx gn : Nat} {g : Nat → Sh} {c : Nat → Nat → Int} {post : Option AV → AM → Prop} {M : Nat} {rh : Nat → Nat} {r : Nat} (hMn : c 11 3 = ((M : Nat) : Int)) (hM2 : 0 < M ∧ M ≤ 240) (hR5 : ∀ k, k < M → c 12 k = ((rh k : Nat) : Int)) (hRb : ∀ k, k < M → rh k < 2 ^ 40) (p1 : ∀ k l, k < l → l < M → rh k < rh l) (p2 : r < 2 ^ 62) (K : post (some (vi (fdF rh r M))) (S nw nx g, 78 + gn, c)) : SM G (j + 1) mX5_find [vr (11), vl (((r : Nat) : Int))] (S nw nx g, 78 + gn, c) 0 0 post := by
  refine sm_of wX5_find rfl (Nat.le_of_ble_eq_true rfl) ?_
  refine g_X5_find_0 hMn hM2 hR5 hRb ?_
  refine ⟨?_, ?_⟩
  all_goals first | omega | exact lp_X5_find hMn hM2 hR5 hRb p1 p2 K (M - 1) 0 (M - 1) 0 (by omega) (by omega) (by omega) (by omega) (fun k hk _ => ⟨by omega, by omega⟩)

