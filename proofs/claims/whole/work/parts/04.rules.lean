/-! RULES: an instruction each -/
theorem i_toInt {z : Int} (h : -2147483648 ≤ z ∧ z < 2147483648) : (Int32.ofInt z).toInt = z := by
  first
    | exact Int32.toInt_ofInt_of_le (by have := h.1; simpa using this) (by have := h.2; simpa using this)
    | (rw [Int32.toInt_ofInt]; exact fb_bmod0 h.1 h.2)
theorem l_toInt {z : Int} (h : -9223372036854775808 ≤ z ∧ z < 9223372036854775808) : (Int64.ofInt z).toInt = z := by
  first
    | exact Int64.toInt_ofInt_of_le (by have := h.1; simpa using this) (by have := h.2; simpa using this)
    | (rw [Int64.toInt_ofInt]; exact fb_bmod0 h.1 h.2)
theorem i_of_toInt (x : Int32) : Int32.ofInt x.toInt = x := by simp
theorem l_of_toInt (x : Int64) : Int64.ofInt x.toInt = x := by simp
theorem i_eq {a b : Int} (ha : -2147483648 ≤ a ∧ a < 2147483648) (hb : -2147483648 ≤ b ∧ b < 2147483648) : Int32.ofInt a = Int32.ofInt b ↔ a = b :=
  ⟨fun h => by rw [← i_toInt ha, ← i_toInt hb, h], fun h => by rw [h]⟩
theorem i_le {a b : Int} (ha : -2147483648 ≤ a ∧ a < 2147483648) (hb : -2147483648 ≤ b ∧ b < 2147483648) : Int32.ofInt a ≤ Int32.ofInt b ↔ a ≤ b := by
  rw [Int32.le_iff_toInt_le, i_toInt ha, i_toInt hb]
theorem i_lt {a b : Int} (ha : -2147483648 ≤ a ∧ a < 2147483648) (hb : -2147483648 ≤ b ∧ b < 2147483648) : Int32.ofInt a < Int32.ofInt b ↔ a < b := by
  rw [Int32.lt_iff_toInt_lt, i_toInt ha, i_toInt hb]
theorem l_eq {a b : Int} (ha : -9223372036854775808 ≤ a ∧ a < 9223372036854775808) (hb : -9223372036854775808 ≤ b ∧ b < 9223372036854775808) : Int64.ofInt a = Int64.ofInt b ↔ a = b :=
  ⟨fun h => by rw [← l_toInt ha, ← l_toInt hb, h], fun h => by rw [h]⟩
theorem l_lt {a b : Int} (ha : -9223372036854775808 ≤ a ∧ a < 9223372036854775808) (hb : -9223372036854775808 ≤ b ∧ b < 9223372036854775808) : Int64.ofInt a < Int64.ofInt b ↔ a < b := by
  rw [Int64.lt_iff_toInt_lt, l_toInt ha, l_toInt hb]
theorem z32 : (-2147483648 : Int) ≤ 0 ∧ (0 : Int) < 2147483648 := ⟨by decide, by decide⟩
-- locals
def kl (lo : List (Option AV)) (i : Nat) : List (Option AV) := match i with
  | 0 => lo
  | j + 1 => match lo[j]? with
    | some (some (.inr (.inl _))) => lo.set j none
    | _ => lo
def st1 (lo : List (Option AV)) (i : Nat) (v : AV) : List (Option AV) := (kl lo i).set i (some v)
def st2 (lo : List (Option AV)) (i : Nat) (v : AV) : List (Option AV) := ((kl lo i).set i (some v)).set (i + 1) none
def asl (b : Nat) (fa : Nat → Nat) (lo : List (Option AV)) : List (Nat × Value) := (List.range lo.length).filterMap fun i => match lo[i]? with
  | some (some v) => some (i, cv b fa v)
  | _ => none
theorem asl_mem {b : Nat} {fa : Nat → Nat} {lo : List (Option AV)} {i : Nat} {v : AV} (h : lo[i]? = some (some v)) : (i, cv b fa v) ∈ asl b fa lo := by
  refine List.mem_filterMap.mpr ⟨i, List.mem_range.mpr (List.getElem?_eq_some_iff.mp h).1, ?_⟩
  simp [h]
theorem asl_has {b : Nat} {fa : Nat → Nat} {nL : Nat} {ls : Array Slot} {lo : List (Option AV)} (h : LR b fa nL ls lo) : lv_has ls nL (asl b fa lo) := by
  refine ⟨h.1, h.2.1, fun q hq => ?_⟩
  obtain ⟨i, -, hi⟩ := List.mem_filterMap.mp hq
  split at hi
  · rename_i v hv
    cases hi
    exact h.2.2 i v hv
  · cases hi
theorem kl_get {lo : List (Option AV)} {i k : Nat} {v : AV} (h : (kl lo i)[k]? = some (some v)) : lo[k]? = some (some v) ∧ (k + 1 = i → ∀ z : Int, v ≠ .inr (.inl z)) := by
  unfold kl at h
  split at h
  · exact ⟨h, fun h2 => absurd h2 (by omega)⟩
  · rename_i j
    split at h
    · rename_i z hz
      rw [List.getElem?_set] at h
      by_cases hk : j = k
      · subst hk
        rw [if_pos rfl] at h
        split at h <;> cases h
      · rw [if_neg hk] at h
        exact ⟨h, fun h2 => absurd (by omega) hk⟩
    · rename_i hz
      refine ⟨h, fun h2 z hv => ?_⟩
      have : k = j := by omega
      subst this
      subst hv
      exact hz z h
theorem cv_cat (b : Nat) (fa : Nat → Nat) (v : AV) : (cv b fa v).category = (match v with | .inr (.inl _) => 2 | _ => 1) := by
  unfold cv
  split <;> rfl
theorem LR_st1 {b : Nat} {fa : Nat → Nat} {nL : Nat} {ls' : Array Slot} {lo : List (Option AV)} {i : Nat} {v : AV}
    (h : lv_has ls' nL ((i, cv b fa v) :: (asl b fa lo).filter (fun q => !(q.1 == i) && !(q.1 + 1 == i && q.2.category == 2)))) : LR b fa nL ls' (st1 lo i v) := by
  refine ⟨h.1, h.2.1, fun k w hk => ?_⟩
  unfold st1 at hk
  rw [List.getElem?_set] at hk
  by_cases hki : i = k
  · subst hki
    rw [if_pos rfl] at hk
    split at hk
    · cases hk
      exact h.2.2 _ List.mem_cons_self
    · cases hk
  · rw [if_neg hki] at hk
    obtain ⟨h1, h2⟩ := kl_get hk
    refine h.2.2 (k, cv b fa w) (List.mem_cons_of_mem _ (List.mem_filter.mpr ⟨asl_mem h1, ?_⟩))
    have hne : (k == i) = false := by simp [Ne.symm hki]
    rw [hne]
    simp only [Bool.not_false, Bool.true_and]
    by_cases hk1 : k + 1 = i
    · have hc : (cv b fa w).category = 1 := by
        rw [cv_cat]
        split
        · rename_i z
          exact absurd rfl (h2 hk1 z)
        · rfl
      simp [hc]
    · simp [hk1]
theorem LR_st2 {b : Nat} {fa : Nat → Nat} {nL : Nat} {ls' : Array Slot} {lo : List (Option AV)} {i : Nat} {v : AV}
    (h : lv_has ls' nL ((i, cv b fa v) :: (asl b fa lo).filter (fun q => !(q.1 == i) && (!(q.1 == i + 1) && !(q.1 + 1 == i && q.2.category == 2))))) : LR b fa nL ls' (st2 lo i v) := by
  refine ⟨h.1, h.2.1, fun k w hk => ?_⟩
  unfold st2 at hk
  rw [List.getElem?_set] at hk
  by_cases hk2 : i + 1 = k
  · rw [if_pos hk2] at hk
    split at hk <;> cases hk
  · rw [if_neg hk2, List.getElem?_set] at hk
    by_cases hki : i = k
    · subst hki
      rw [if_pos rfl] at hk
      split at hk
      · cases hk
        exact h.2.2 _ List.mem_cons_self
      · cases hk
    · rw [if_neg hki] at hk
      obtain ⟨h1, h2⟩ := kl_get hk
      refine h.2.2 (k, cv b fa w) (List.mem_cons_of_mem _ (List.mem_filter.mpr ⟨asl_mem h1, ?_⟩))
      have hne : (k == i) = false := by simp [Ne.symm hki]
      have hne2 : (k == i + 1) = false := by simp [Ne.symm hk2]
      rw [hne, hne2]
      simp only [Bool.not_false, Bool.true_and]
      by_cases hk1 : k + 1 = i
      · have hc : (cv b fa w).category = 1 := by
          rw [cv_cat]
          split
          · rename_i z
            exact absurd rfl (h2 hk1 z)
          · rfl
        simp [hc]
      · simp [hk1]
theorem cat1 {b : Nat} {fa : Nat → Nat} {v : AV} (hv : ∀ z : Int, v ≠ vl z) : (cv b fa v).category = 1 := by
  rw [cv_cat]
  split
  · rename_i z
    exact absurd rfl (hv z)
  · rfl
section RU
variable {G : GG} {j : Nat} {me : Mth} {pc : Nat} {lo lo' : List (Option AV)} {st : List AV} {M : AM} {B : BB} {post : Option AV → AM → Prop}
theorem sw_iload_n {k : Fin 4} {i : Nat} {z : Int} (hd : decode me.2.1 pc = .ok (.iload_n k, 1)) (hi : (k : Nat) = i) (h : lo[i]? = some (some (vi z))) (K : SW G j me (pc + 1) lo (vi z :: st) M B post) : SW G j me pc lo st M B post :=
  fun p e R s m args below meth c b fa fv cy D H locs ls Q C hH hL hE => lv_iload_n C.1.1 C.1.2.1 hd hi (hL.2.2 i _ h) (K p e R s m args below meth c b fa fv cy D H locs ls Q C hH hL hE)
theorem sw_iload {i : Nat} {z : Int} (hd : decode me.2.1 pc = .ok (.iload i, 2)) (h : lo[i]? = some (some (vi z))) (K : SW G j me (pc + 2) lo (vi z :: st) M B post) : SW G j me pc lo st M B post :=
  fun p e R s m args below meth c b fa fv cy D H locs ls Q C hH hL hE => lv_iload C.1.1 C.1.2.1 hd (hL.2.2 i _ h) (K p e R s m args below meth c b fa fv cy D H locs ls Q C hH hL hE)
theorem sw_lload_n {k : Fin 4} {i : Nat} {z : Int} (hd : decode me.2.1 pc = .ok (.lload_n k, 1)) (hi : (k : Nat) = i) (h : lo[i]? = some (some (vl z))) (K : SW G j me (pc + 1) lo (vl z :: st) M B post) : SW G j me pc lo st M B post :=
  fun p e R s m args below meth c b fa fv cy D H locs ls Q C hH hL hE => lv_lload_n C.1.1 C.1.2.1 hd hi (hL.2.2 i _ h) (K p e R s m args below meth c b fa fv cy D H locs ls Q C hH hL hE)
theorem sw_lload {i : Nat} {z : Int} (hd : decode me.2.1 pc = .ok (.lload i, 2)) (h : lo[i]? = some (some (vl z))) (K : SW G j me (pc + 2) lo (vl z :: st) M B post) : SW G j me pc lo st M B post :=
  fun p e R s m args below meth c b fa fv cy D H locs ls Q C hH hL hE => lv_lload C.1.1 C.1.2.1 hd (hL.2.2 i _ h) (K p e R s m args below meth c b fa fv cy D H locs ls Q C hH hL hE)
theorem sw_aload_n {k : Fin 4} {i : Nat} {a : Nat} (hd : decode me.2.1 pc = .ok (.aload_n k, 1)) (hi : (k : Nat) = i) (h : lo[i]? = some (some (vr a))) (K : SW G j me (pc + 1) lo (vr a :: st) M B post) : SW G j me pc lo st M B post :=
  fun p e R s m args below meth c b fa fv cy D H locs ls Q C hH hL hE => lv_aload_n C.1.1 C.1.2.1 hd hi (hL.2.2 i _ h) (K p e R s m args below meth c b fa fv cy D H locs ls Q C hH hL hE)
theorem sw_aload_nf {k : Fin 4} {i : Nat} {a : Nat} (hd : decode me.2.1 pc = .ok (.aload_n k, 1)) (hi : (k : Nat) = i) (h : lo[i]? = some (some (vf a))) (K : SW G j me (pc + 1) lo (vf a :: st) M B post) : SW G j me pc lo st M B post :=
  fun p e R s m args below meth c b fa fv cy D H locs ls Q C hH hL hE => lv_aload_n C.1.1 C.1.2.1 hd hi (hL.2.2 i _ h) (K p e R s m args below meth c b fa fv cy D H locs ls Q C hH hL hE)
theorem sw_aload {i : Nat} {a : Nat} (hd : decode me.2.1 pc = .ok (.aload i, 2)) (h : lo[i]? = some (some (vr a))) (K : SW G j me (pc + 2) lo (vr a :: st) M B post) : SW G j me pc lo st M B post :=
  fun p e R s m args below meth c b fa fv cy D H locs ls Q C hH hL hE => lv_aload C.1.1 C.1.2.1 hd (hL.2.2 i _ h) (K p e R s m args below meth c b fa fv cy D H locs ls Q C hH hL hE)
theorem sw_iconst {n : Int} (hd : decode me.2.1 pc = .ok (.iconst n, 1)) (K : SW G j me (pc + 1) lo (vi n :: st) M B post) : SW G j me pc lo st M B post :=
  fun p e R s m args below meth c b fa fv cy D H locs ls Q C hH hL hE => lv_iconst C.1.1 C.1.2.1 hd rfl (K p e R s m args below meth c b fa fv cy D H locs ls Q C hH hL hE)
theorem sw_bipush {n : Int} (hd : decode me.2.1 pc = .ok (.bipush n, 2)) (hn : (Int8.ofInt n).toInt32 = Int32.ofInt n) (K : SW G j me (pc + 2) lo (vi n :: st) M B post) : SW G j me pc lo st M B post :=
  fun p e R s m args below meth c b fa fv cy D H locs ls Q C hH hL hE => lv_bipush C.1.1 C.1.2.1 hd hn (K p e R s m args below meth c b fa fv cy D H locs ls Q C hH hL hE)
theorem sw_sipush {n : Int} (hd : decode me.2.1 pc = .ok (.sipush n, 3)) (hn : (Int16.ofInt n).toInt32 = Int32.ofInt n) (K : SW G j me (pc + 3) lo (vi n :: st) M B post) : SW G j me pc lo st M B post :=
  fun p e R s m args below meth c b fa fv cy D H locs ls Q C hH hL hE => lv_sipush C.1.1 C.1.2.1 hd hn (K p e R s m args below meth c b fa fv cy D H locs ls Q C hH hL hE)
theorem sw_lconst {n : Fin 2} {z : Int} (hd : decode me.2.1 pc = .ok (.lconst n, 1)) (hv : Int64.ofNat (n : Nat) = Int64.ofInt z) (K : SW G j me (pc + 1) lo (vl z :: st) M B post) : SW G j me pc lo st M B post :=
  fun p e R s m args below meth c b fa fv cy D H locs ls Q C hH hL hE => lv_lconst C.1.1 C.1.2.1 hd hv (K p e R s m args below meth c b fa fv cy D H locs ls Q C hH hL hE)
theorem sw_ldc {ix : Nat} {v : Int32} {z : Int} (hd : decode me.2.1 pc = .ok (.ldc ix, 2)) (hw : Cond.constant me.2.2.2.2 ix v ∈ wsG) (hv : v = Int32.ofInt z) (K : SW G j me (pc + 2) lo (vi z :: st) M B post) : SW G j me pc lo st M B post :=
  fun p e R s m args below meth c b fa fv cy D H locs ls Q C hH hL hE => lv_ldc C.1.1 C.1.2.1 C.1.2.2.2.2.2.1 (hv ▸ C.2.1 _ hw) hd (K p e R s m args below meth c b fa fv cy D H locs ls Q C hH hL hE)
theorem sw_ldcw {ix : Nat} {v : Int32} {z : Int} (hd : decode me.2.1 pc = .ok (.ldc_w ix, 3)) (hw : Cond.constant me.2.2.2.2 ix v ∈ wsG) (hv : v = Int32.ofInt z) (K : SW G j me (pc + 3) lo (vi z :: st) M B post) : SW G j me pc lo st M B post :=
  fun p e R s m args below meth c b fa fv cy D H locs ls Q C hH hL hE => lv_ldcw C.1.1 C.1.2.1 C.1.2.2.2.2.2.1 (hv ▸ C.2.1 _ hw) hd (K p e R s m args below meth c b fa fv cy D H locs ls Q C hH hL hE)
theorem sw_ldc2 {ix : Nat} {v : Int64} {z : Int} (hd : decode me.2.1 pc = .ok (.ldc2_w ix, 3)) (hw : Cond.constantLong me.2.2.2.2 ix v ∈ wsG) (hv : v = Int64.ofInt z) (K : SW G j me (pc + 3) lo (vl z :: st) M B post) : SW G j me pc lo st M B post :=
  fun p e R s m args below meth c b fa fv cy D H locs ls Q C hH hL hE => lv_ldc2 C.1.1 C.1.2.1 C.1.2.2.2.2.2.1 (hv ▸ C.2.1 _ hw) hd (K p e R s m args below meth c b fa fv cy D H locs ls Q C hH hL hE)
theorem sw_istore_n {k : Fin 4} {i : Nat} {z : Int} (hd : decode me.2.1 pc = .ok (.istore_n k, 1)) (hi : (k : Nat) = i) (hn : i < me.2.2.1) (hlo : st1 lo i (vi z) = lo') (K : SW G j me (pc + 1) lo' st M B post) : SW G j me pc lo (vi z :: st) M B post :=
  fun p e R s m args below meth c b fa fv cy D H locs ls Q C hH hL hE => lv_istore_n C.1.1 C.1.2.1 hd hi (asl_has hL) hn rfl (fun ls' h => K p e R s m args below meth c b fa fv cy D H locs ls' Q C hH (hlo ▸ LR_st1 (v := vi z) h) hE)
theorem sw_istore {i : Nat} {z : Int} (hd : decode me.2.1 pc = .ok (.istore i, 2)) (hn : i < me.2.2.1) (hlo : st1 lo i (vi z) = lo') (K : SW G j me (pc + 2) lo' st M B post) : SW G j me pc lo (vi z :: st) M B post :=
  fun p e R s m args below meth c b fa fv cy D H locs ls Q C hH hL hE => lv_istore C.1.1 C.1.2.1 hd (asl_has hL) hn rfl (fun ls' h => K p e R s m args below meth c b fa fv cy D H locs ls' Q C hH (hlo ▸ LR_st1 (v := vi z) h) hE)
theorem sw_astore_n {k : Fin 4} {i a : Nat} (hd : decode me.2.1 pc = .ok (.astore_n k, 1)) (hi : (k : Nat) = i) (hn : i < me.2.2.1) (hlo : st1 lo i (vr a) = lo') (K : SW G j me (pc + 1) lo' st M B post) : SW G j me pc lo (vr a :: st) M B post :=
  fun p e R s m args below meth c b fa fv cy D H locs ls Q C hH hL hE => lv_astore_n C.1.1 C.1.2.1 hd hi (asl_has hL) hn rfl (fun ls' h => K p e R s m args below meth c b fa fv cy D H locs ls' Q C hH (hlo ▸ LR_st1 (v := vr a) h) hE)
theorem sw_astore {i a : Nat} (hd : decode me.2.1 pc = .ok (.astore i, 2)) (hn : i < me.2.2.1) (hlo : st1 lo i (vr a) = lo') (K : SW G j me (pc + 2) lo' st M B post) : SW G j me pc lo (vr a :: st) M B post :=
  fun p e R s m args below meth c b fa fv cy D H locs ls Q C hH hL hE => lv_astore C.1.1 C.1.2.1 hd (asl_has hL) hn rfl (fun ls' h => K p e R s m args below meth c b fa fv cy D H locs ls' Q C hH (hlo ▸ LR_st1 (v := vr a) h) hE)
theorem sw_lstore_n {k : Fin 4} {i : Nat} {z : Int} (hd : decode me.2.1 pc = .ok (.lstore_n k, 1)) (hi : (k : Nat) = i) (hn : i + 1 < me.2.2.1) (hlo : st2 lo i (vl z) = lo') (K : SW G j me (pc + 1) lo' st M B post) : SW G j me pc lo (vl z :: st) M B post :=
  fun p e R s m args below meth c b fa fv cy D H locs ls Q C hH hL hE => lv_lstore_n C.1.1 C.1.2.1 hd hi (asl_has hL) hn rfl (fun ls' h => K p e R s m args below meth c b fa fv cy D H locs ls' Q C hH (hlo ▸ LR_st2 (v := vl z) h) hE)
theorem sw_lstore {i : Nat} {z : Int} (hd : decode me.2.1 pc = .ok (.lstore i, 2)) (hn : i + 1 < me.2.2.1) (hlo : st2 lo i (vl z) = lo') (K : SW G j me (pc + 2) lo' st M B post) : SW G j me pc lo (vl z :: st) M B post :=
  fun p e R s m args below meth c b fa fv cy D H locs ls Q C hH hL hE => lv_lstore C.1.1 C.1.2.1 hd (asl_has hL) hn rfl (fun ls' h => K p e R s m args below meth c b fa fv cy D H locs ls' Q C hH (hlo ▸ LR_st2 (v := vl z) h) hE)
theorem sw_iinc {i : Nat} {n z : Int} (hd : decode me.2.1 pc = .ok (.iinc i n, 3)) (h : lo[i]? = some (some (vi z))) (hn : i < me.2.2.1) (hlo : st1 lo i (vi (z + n)) = lo') (K : SW G j me (pc + 3) lo' st M B post) : SW G j me pc lo st M B post := by
  intro p e R s m args below meth c b fa fv cy D H locs ls Q C hH hL hE
  obtain ⟨k, hk⟩ := List.getElem?_of_mem (asl_mem (b := b) (fa := fa) h)
  refine lv_iinc (x := Int32.ofInt z) (v := Int32.ofInt (z + n)) C.1.1 C.1.2.1 hd (asl_has hL) hk (by rw [Int32.ofInt_add]) hn rfl (fun ls' h => K p e R s m args below meth c b fa fv cy D H locs ls' Q C hH (hlo ▸ LR_st1 (v := vi (z + n)) h) hE)
-- arithmetic
theorem sw_iadd {x y : Int} (hd : decode me.2.1 pc = .ok (.iadd, 1)) (K : SW G j me (pc + 1) lo (vi (x + y) :: st) M B post) : SW G j me pc lo (vi y :: vi x :: st) M B post :=
  fun p e R s m args below meth c b fa fv cy D H locs ls Q C hH hL hE => lv_iadd C.1.1 C.1.2.1 hd (by have := K p e R s m args below meth c b fa fv cy D H locs ls Q C hH hL hE; simpa only [List.map_cons, cv, Int32.ofInt_add] using this)
theorem sw_isub {x y : Int} (hd : decode me.2.1 pc = .ok (.isub, 1)) (K : SW G j me (pc + 1) lo (vi (x - y) :: st) M B post) : SW G j me pc lo (vi y :: vi x :: st) M B post :=
  fun p e R s m args below meth c b fa fv cy D H locs ls Q C hH hL hE => lv_isub C.1.1 C.1.2.1 hd (by have := K p e R s m args below meth c b fa fv cy D H locs ls Q C hH hL hE; simpa only [List.map_cons, cv, Int32.ofInt_sub] using this)
theorem sw_imul {x y : Int} (hd : decode me.2.1 pc = .ok (.imul, 1)) (K : SW G j me (pc + 1) lo (vi (x * y) :: st) M B post) : SW G j me pc lo (vi y :: vi x :: st) M B post :=
  fun p e R s m args below meth c b fa fv cy D H locs ls Q C hH hL hE => lv_imul C.1.1 C.1.2.1 hd (by have := K p e R s m args below meth c b fa fv cy D H locs ls Q C hH hL hE; simpa only [List.map_cons, cv, Int32.ofInt_mul] using this)
theorem sw_ineg {x : Int} (hd : decode me.2.1 pc = .ok (.ineg, 1)) (K : SW G j me (pc + 1) lo (vi (-x) :: st) M B post) : SW G j me pc lo (vi x :: st) M B post :=
  fun p e R s m args below meth c b fa fv cy D H locs ls Q C hH hL hE => lv_ineg C.1.1 C.1.2.1 hd (by have := K p e R s m args below meth c b fa fv cy D H locs ls Q C hH hL hE; simpa only [List.map_cons, cv, Int32.ofInt_neg] using this)
theorem sw_ladd {x y : Int} (hd : decode me.2.1 pc = .ok (.ladd, 1)) (K : SW G j me (pc + 1) lo (vl (x + y) :: st) M B post) : SW G j me pc lo (vl y :: vl x :: st) M B post :=
  fun p e R s m args below meth c b fa fv cy D H locs ls Q C hH hL hE => lv_ladd C.1.1 C.1.2.1 hd (by have := K p e R s m args below meth c b fa fv cy D H locs ls Q C hH hL hE; simpa only [List.map_cons, cv, Int64.ofInt_add] using this)
theorem sw_lsub {x y : Int} (hd : decode me.2.1 pc = .ok (.lsub, 1)) (K : SW G j me (pc + 1) lo (vl (x - y) :: st) M B post) : SW G j me pc lo (vl y :: vl x :: st) M B post :=
  fun p e R s m args below meth c b fa fv cy D H locs ls Q C hH hL hE => lv_lsub C.1.1 C.1.2.1 hd (by have := K p e R s m args below meth c b fa fv cy D H locs ls Q C hH hL hE; simpa only [List.map_cons, cv, Int64.ofInt_sub] using this)
theorem sw_lmul {x y : Int} (hd : decode me.2.1 pc = .ok (.lmul, 1)) (K : SW G j me (pc + 1) lo (vl (x * y) :: st) M B post) : SW G j me pc lo (vl y :: vl x :: st) M B post :=
  fun p e R s m args below meth c b fa fv cy D H locs ls Q C hH hL hE => lv_lmul C.1.1 C.1.2.1 hd (by have := K p e R s m args below meth c b fa fv cy D H locs ls Q C hH hL hE; simpa only [List.map_cons, cv, Int64.ofInt_mul] using this)
def and32 (x y : Int) : Int := (Int32.ofInt x &&& Int32.ofInt y).toInt
def and64 (x y : Int) : Int := (Int64.ofInt x &&& Int64.ofInt y).toInt
theorem sw_iand {x y : Int} (hd : decode me.2.1 pc = .ok (.iand, 1)) (K : SW G j me (pc + 1) lo (vi (and32 x y) :: st) M B post) : SW G j me pc lo (vi y :: vi x :: st) M B post :=
  fun p e R s m args below meth c b fa fv cy D H locs ls Q C hH hL hE => lv_iand C.1.1 C.1.2.1 hd (by have := K p e R s m args below meth c b fa fv cy D H locs ls Q C hH hL hE; simpa only [List.map_cons, cv, and32, i_of_toInt] using this)
theorem sw_land {x y : Int} (hd : decode me.2.1 pc = .ok (.land, 1)) (K : SW G j me (pc + 1) lo (vl (and64 x y) :: st) M B post) : SW G j me pc lo (vl y :: vl x :: st) M B post :=
  fun p e R s m args below meth c b fa fv cy D H locs ls Q C hH hL hE => lv_land C.1.1 C.1.2.1 hd (by have := K p e R s m args below meth c b fa fv cy D H locs ls Q C hH hL hE; simpa only [List.map_cons, cv, and64, l_of_toInt] using this)
def or32 (x y : Int) : Int := (Int32.ofInt x ||| Int32.ofInt y).toInt
def or64 (x y : Int) : Int := (Int64.ofInt x ||| Int64.ofInt y).toInt
theorem sw_ior {x y : Int} (hd : decode me.2.1 pc = .ok (.ior, 1)) (K : SW G j me (pc + 1) lo (vi (or32 x y) :: st) M B post) : SW G j me pc lo (vi y :: vi x :: st) M B post :=
  fun p e R s m args below meth c b fa fv cy D H locs ls Q C hH hL hE => lv_ior C.1.1 C.1.2.1 hd (by have := K p e R s m args below meth c b fa fv cy D H locs ls Q C hH hL hE; simpa only [List.map_cons, cv, or32, i_of_toInt] using this)
theorem sw_lor {x y : Int} (hd : decode me.2.1 pc = .ok (.lor, 1)) (K : SW G j me (pc + 1) lo (vl (or64 x y) :: st) M B post) : SW G j me pc lo (vl y :: vl x :: st) M B post :=
  fun p e R s m args below meth c b fa fv cy D H locs ls Q C hH hL hE => lv_lor C.1.1 C.1.2.1 hd (by have := K p e R s m args below meth c b fa fv cy D H locs ls Q C hH hL hE; simpa only [List.map_cons, cv, or64, l_of_toInt] using this)
def xor32 (x y : Int) : Int := (Int32.ofInt x ^^^ Int32.ofInt y).toInt
def xor64 (x y : Int) : Int := (Int64.ofInt x ^^^ Int64.ofInt y).toInt
theorem sw_ixor {x y : Int} (hd : decode me.2.1 pc = .ok (.ixor, 1)) (K : SW G j me (pc + 1) lo (vi (xor32 x y) :: st) M B post) : SW G j me pc lo (vi y :: vi x :: st) M B post :=
  fun p e R s m args below meth c b fa fv cy D H locs ls Q C hH hL hE => lv_ixor C.1.1 C.1.2.1 hd (by have := K p e R s m args below meth c b fa fv cy D H locs ls Q C hH hL hE; simpa only [List.map_cons, cv, xor32, i_of_toInt] using this)
theorem sw_lxor {x y : Int} (hd : decode me.2.1 pc = .ok (.lxor, 1)) (K : SW G j me (pc + 1) lo (vl (xor64 x y) :: st) M B post) : SW G j me pc lo (vl y :: vl x :: st) M B post :=
  fun p e R s m args below meth c b fa fv cy D H locs ls Q C hH hL hE => lv_lxor C.1.1 C.1.2.1 hd (by have := K p e R s m args below meth c b fa fv cy D H locs ls Q C hH hL hE; simpa only [List.map_cons, cv, xor64, l_of_toInt] using this)
def shl32 (x y : Int) : Int := (Int32.ofInt x <<< (Int32.ofInt y &&& 31)).toInt
def shr32 (x y : Int) : Int := (Int32.ofInt x >>> (Int32.ofInt y &&& 31)).toInt
def ushr32 (x y : Int) : Int := ((Int32.ofInt x).toUInt32 >>> ((Int32.ofInt y).toUInt32 &&& Int32.toUInt32 31)).toInt32.toInt
def shl64 (x y : Int) : Int := (Int64.ofInt x <<< ((Int32.ofInt y).toInt64 &&& 63)).toInt
def shr64 (x y : Int) : Int := (Int64.ofInt x >>> ((Int32.ofInt y).toInt64 &&& 63)).toInt
def ushr64 (x y : Int) : Int := ((Int64.ofInt x).toUInt64 >>> ((Int32.ofInt y).toInt64.toUInt64 &&& Int64.toUInt64 63)).toInt64.toInt
theorem sw_ishl {x y : Int} (hd : decode me.2.1 pc = .ok (.ishl, 1)) (K : SW G j me (pc + 1) lo (vi (shl32 x y) :: st) M B post) : SW G j me pc lo (vi y :: vi x :: st) M B post :=
  fun p e R s m args below meth c b fa fv cy D H locs ls Q C hH hL hE => lv_ishl C.1.1 C.1.2.1 hd (by have := K p e R s m args below meth c b fa fv cy D H locs ls Q C hH hL hE; simpa only [List.map_cons, cv, shl32, i_of_toInt] using this)
theorem sw_ishr {x y : Int} (hd : decode me.2.1 pc = .ok (.ishr, 1)) (K : SW G j me (pc + 1) lo (vi (shr32 x y) :: st) M B post) : SW G j me pc lo (vi y :: vi x :: st) M B post :=
  fun p e R s m args below meth c b fa fv cy D H locs ls Q C hH hL hE => lv_ishr C.1.1 C.1.2.1 hd (by have := K p e R s m args below meth c b fa fv cy D H locs ls Q C hH hL hE; simpa only [List.map_cons, cv, shr32, i_of_toInt] using this)
theorem sw_iushr {x y : Int} (hd : decode me.2.1 pc = .ok (.iushr, 1)) (K : SW G j me (pc + 1) lo (vi (ushr32 x y) :: st) M B post) : SW G j me pc lo (vi y :: vi x :: st) M B post :=
  fun p e R s m args below meth c b fa fv cy D H locs ls Q C hH hL hE => lv_iushr C.1.1 C.1.2.1 hd (i_of_toInt _).symm (K p e R s m args below meth c b fa fv cy D H locs ls Q C hH hL hE)
theorem sw_lshl {x y : Int} (hd : decode me.2.1 pc = .ok (.lshl, 1)) (K : SW G j me (pc + 1) lo (vl (shl64 x y) :: st) M B post) : SW G j me pc lo (vi y :: vl x :: st) M B post :=
  fun p e R s m args below meth c b fa fv cy D H locs ls Q C hH hL hE => lv_lshl C.1.1 C.1.2.1 hd (l_of_toInt _).symm (K p e R s m args below meth c b fa fv cy D H locs ls Q C hH hL hE)
theorem sw_lshr {x y : Int} (hd : decode me.2.1 pc = .ok (.lshr, 1)) (K : SW G j me (pc + 1) lo (vl (shr64 x y) :: st) M B post) : SW G j me pc lo (vi y :: vl x :: st) M B post :=
  fun p e R s m args below meth c b fa fv cy D H locs ls Q C hH hL hE => lv_lshr C.1.1 C.1.2.1 hd (l_of_toInt _).symm (K p e R s m args below meth c b fa fv cy D H locs ls Q C hH hL hE)
theorem sw_lushr {x y : Int} (hd : decode me.2.1 pc = .ok (.lushr, 1)) (K : SW G j me (pc + 1) lo (vl (ushr64 x y) :: st) M B post) : SW G j me pc lo (vi y :: vl x :: st) M B post :=
  fun p e R s m args below meth c b fa fv cy D H locs ls Q C hH hL hE => lv_lushr C.1.1 C.1.2.1 hd (l_of_toInt _).symm (K p e R s m args below meth c b fa fv cy D H locs ls Q C hH hL hE)
def div32 (x y : Int) : Int := (Int32.ofInt x / Int32.ofInt y).toInt
def rem32 (x y : Int) : Int := (Int32.ofInt x - Int32.ofInt x / Int32.ofInt y * Int32.ofInt y).toInt
def rem64 (x y : Int) : Int := (Int64.ofInt x - Int64.ofInt x / Int64.ofInt y * Int64.ofInt y).toInt
theorem sw_idiv {x y : Int} (hd : decode me.2.1 pc = .ok (.idiv, 1)) (hy : ¬ Int32.ofInt y = 0) (K : SW G j me (pc + 1) lo (vi (div32 x y) :: st) M B post) : SW G j me pc lo (vi y :: vi x :: st) M B post :=
  fun p e R s m args below meth c b fa fv cy D H locs ls Q C hH hL hE => lv_idiv C.1.1 C.1.2.1 hd hy (by have := K p e R s m args below meth c b fa fv cy D H locs ls Q C hH hL hE; simpa only [List.map_cons, cv, div32, i_of_toInt] using this)
theorem sw_irem {x y : Int} (hd : decode me.2.1 pc = .ok (.irem, 1)) (hy : ¬ Int32.ofInt y = 0) (K : SW G j me (pc + 1) lo (vi (rem32 x y) :: st) M B post) : SW G j me pc lo (vi y :: vi x :: st) M B post :=
  fun p e R s m args below meth c b fa fv cy D H locs ls Q C hH hL hE => lv_irem C.1.1 C.1.2.1 hd hy (by have := K p e R s m args below meth c b fa fv cy D H locs ls Q C hH hL hE; simpa only [List.map_cons, cv, rem32, i_of_toInt] using this)
theorem sw_lrem {x y : Int} (hd : decode me.2.1 pc = .ok (.lrem, 1)) (hy : ¬ Int64.ofInt y = 0) (K : SW G j me (pc + 1) lo (vl (rem64 x y) :: st) M B post) : SW G j me pc lo (vl y :: vl x :: st) M B post :=
  fun p e R s m args below meth c b fa fv cy D H locs ls Q C hH hL hE => lv_lrem C.1.1 C.1.2.1 hd hy (by have := K p e R s m args below meth c b fa fv cy D H locs ls Q C hH hL hE; simpa only [List.map_cons, cv, rem64, l_of_toInt] using this)
theorem i2l_of {z : Int} (h : -2147483648 ≤ z ∧ z < 2147483648) : (Int32.ofInt z).toInt64 = Int64.ofInt z := by
  apply Int64.toInt_inj.mp
  rw [Int32.toInt_toInt64, i_toInt h, l_toInt (by omega)]
theorem sw_i2l {x : Int} (hd : decode me.2.1 pc = .ok (.i2l, 1)) (hx : -2147483648 ≤ x ∧ x < 2147483648) (K : SW G j me (pc + 1) lo (vl x :: st) M B post) : SW G j me pc lo (vi x :: st) M B post :=
  fun p e R s m args below meth c b fa fv cy D H locs ls Q C hH hL hE => lv_i2l C.1.1 C.1.2.1 hd (i2l_of hx) (K p e R s m args below meth c b fa fv cy D H locs ls Q C hH hL hE)
theorem l2i_of (z : Int) : (Int64.ofInt z).toInt32 = Int32.ofInt z := by
  first
    | exact Int64.toInt32_ofInt
    | simp
theorem sw_l2i {x : Int} (hd : decode me.2.1 pc = .ok (.l2i, 1)) (K : SW G j me (pc + 1) lo (vi x :: st) M B post) : SW G j me pc lo (vl x :: st) M B post :=
  fun p e R s m args below meth c b fa fv cy D H locs ls Q C hH hL hE => lv_l2i C.1.1 C.1.2.1 hd (l2i_of x) (K p e R s m args below meth c b fa fv cy D H locs ls Q C hH hL hE)
def b8 (x : Int) : Int := (Int32.ofInt x).toInt8.toInt32.toInt
theorem sw_i2b {x : Int} (hd : decode me.2.1 pc = .ok (.i2b, 1)) (K : SW G j me (pc + 1) lo (vi (b8 x) :: st) M B post) : SW G j me pc lo (vi x :: st) M B post :=
  fun p e R s m args below meth c b fa fv cy D H locs ls Q C hH hL hE => lv_i2b C.1.1 C.1.2.1 hd (i_of_toInt _).symm (K p e R s m args below meth c b fa fv cy D H locs ls Q C hH hL hE)
theorem sw_dup {v : AV} (hd : decode me.2.1 pc = .ok (.dup, 1)) (hv : ∀ z : Int, v ≠ vl z) (K : SW G j me (pc + 1) lo (v :: v :: st) M B post) : SW G j me pc lo (v :: st) M B post :=
  fun p e R s m args below meth c b fa fv cy D H locs ls Q C hH hL hE => lv_dup C.1.1 C.1.2.1 hd (cat1 hv) (K p e R s m args below meth c b fa fv cy D H locs ls Q C hH hL hE)
theorem sw_dup2 {v w : AV} (hd : decode me.2.1 pc = .ok (.dup2, 1)) (hv : ∀ z : Int, v ≠ vl z) (hw : ∀ z : Int, w ≠ vl z) (K : SW G j me (pc + 1) lo (v :: w :: v :: w :: st) M B post) : SW G j me pc lo (v :: w :: st) M B post :=
  fun p e R s m args below meth c b fa fv cy D H locs ls Q C hH hL hE => lv_dup2_11 C.1.1 C.1.2.1 hd (cat1 hv) (cat1 hw) (K p e R s m args below meth c b fa fv cy D H locs ls Q C hH hL hE)
theorem sw_pop {v : AV} (hd : decode me.2.1 pc = .ok (.pop, 1)) (hv : ∀ z : Int, v ≠ vl z) (K : SW G j me (pc + 1) lo st M B post) : SW G j me pc lo (v :: st) M B post :=
  fun p e R s m args below meth c b fa fv cy D H locs ls Q C hH hL hE => lv_pop C.1.1 C.1.2.1 hd (cat1 hv) (K p e R s m args below meth c b fa fv cy D H locs ls Q C hH hL hE)
theorem sw_icmp_eq {x y off : Int} {tgt : Nat} (hd : decode me.2.1 pc = .ok (.if_icmp .eq off, 3)) (ht : (pc : Int) + off = (tgt : Int)) (hx : -2147483648 ≤ x ∧ x < 2147483648) (hy : -2147483648 ≤ y ∧ y < 2147483648) (kt : x = y → SW G j me tgt lo st M B post) (kf : ¬ x = y → SW G j me (pc + 3) lo st M B post) : SW G j me pc lo (vi y :: vi x :: st) M B post :=
  fun p e R s m args below meth c b fa fv cy D H locs ls Q C hH hL hE => lv_icmp_eq C.1.1 C.1.2.1 hd ht (fun h => kt ((i_eq hx hy).mp h) p e R s m args below meth c b fa fv cy D H locs ls Q C hH hL hE) (fun h => kf (fun q => h ((i_eq hx hy).mpr q)) p e R s m args below meth c b fa fv cy D H locs ls Q C hH hL hE)
theorem sw_icmp_ne {x y off : Int} {tgt : Nat} (hd : decode me.2.1 pc = .ok (.if_icmp .ne off, 3)) (ht : (pc : Int) + off = (tgt : Int)) (hx : -2147483648 ≤ x ∧ x < 2147483648) (hy : -2147483648 ≤ y ∧ y < 2147483648) (kt : x ≠ y → SW G j me tgt lo st M B post) (kf : x = y → SW G j me (pc + 3) lo st M B post) : SW G j me pc lo (vi y :: vi x :: st) M B post :=
  fun p e R s m args below meth c b fa fv cy D H locs ls Q C hH hL hE => lv_icmp_ne C.1.1 C.1.2.1 hd ht (fun h => kt (fun q => h ((i_eq hx hy).mpr q)) p e R s m args below meth c b fa fv cy D H locs ls Q C hH hL hE) (fun h => kf ((i_eq hx hy).mp h) p e R s m args below meth c b fa fv cy D H locs ls Q C hH hL hE)
theorem sw_icmp_lt {x y off : Int} {tgt : Nat} (hd : decode me.2.1 pc = .ok (.if_icmp .lt off, 3)) (ht : (pc : Int) + off = (tgt : Int)) (hx : -2147483648 ≤ x ∧ x < 2147483648) (hy : -2147483648 ≤ y ∧ y < 2147483648) (kt : x < y → SW G j me tgt lo st M B post) (kf : ¬ x < y → SW G j me (pc + 3) lo st M B post) : SW G j me pc lo (vi y :: vi x :: st) M B post :=
  fun p e R s m args below meth c b fa fv cy D H locs ls Q C hH hL hE => lv_icmp_lt C.1.1 C.1.2.1 hd ht (fun h => kt ((i_lt hx hy).mp h) p e R s m args below meth c b fa fv cy D H locs ls Q C hH hL hE) (fun h => kf (fun q => h ((i_lt hx hy).mpr q)) p e R s m args below meth c b fa fv cy D H locs ls Q C hH hL hE)
theorem sw_icmp_ge {x y off : Int} {tgt : Nat} (hd : decode me.2.1 pc = .ok (.if_icmp .ge off, 3)) (ht : (pc : Int) + off = (tgt : Int)) (hx : -2147483648 ≤ x ∧ x < 2147483648) (hy : -2147483648 ≤ y ∧ y < 2147483648) (kt : y ≤ x → SW G j me tgt lo st M B post) (kf : ¬ y ≤ x → SW G j me (pc + 3) lo st M B post) : SW G j me pc lo (vi y :: vi x :: st) M B post :=
  fun p e R s m args below meth c b fa fv cy D H locs ls Q C hH hL hE => lv_icmp_ge C.1.1 C.1.2.1 hd ht (fun h => kt ((i_le hy hx).mp h) p e R s m args below meth c b fa fv cy D H locs ls Q C hH hL hE) (fun h => kf (fun q => h ((i_le hy hx).mpr q)) p e R s m args below meth c b fa fv cy D H locs ls Q C hH hL hE)
theorem sw_icmp_gt {x y off : Int} {tgt : Nat} (hd : decode me.2.1 pc = .ok (.if_icmp .gt off, 3)) (ht : (pc : Int) + off = (tgt : Int)) (hx : -2147483648 ≤ x ∧ x < 2147483648) (hy : -2147483648 ≤ y ∧ y < 2147483648) (kt : y < x → SW G j me tgt lo st M B post) (kf : ¬ y < x → SW G j me (pc + 3) lo st M B post) : SW G j me pc lo (vi y :: vi x :: st) M B post :=
  fun p e R s m args below meth c b fa fv cy D H locs ls Q C hH hL hE => lv_icmp_gt C.1.1 C.1.2.1 hd ht (fun h => kt ((i_lt hy hx).mp h) p e R s m args below meth c b fa fv cy D H locs ls Q C hH hL hE) (fun h => kf (fun q => h ((i_lt hy hx).mpr q)) p e R s m args below meth c b fa fv cy D H locs ls Q C hH hL hE)
theorem sw_icmp_le {x y off : Int} {tgt : Nat} (hd : decode me.2.1 pc = .ok (.if_icmp .le off, 3)) (ht : (pc : Int) + off = (tgt : Int)) (hx : -2147483648 ≤ x ∧ x < 2147483648) (hy : -2147483648 ≤ y ∧ y < 2147483648) (kt : x ≤ y → SW G j me tgt lo st M B post) (kf : ¬ x ≤ y → SW G j me (pc + 3) lo st M B post) : SW G j me pc lo (vi y :: vi x :: st) M B post :=
  fun p e R s m args below meth c b fa fv cy D H locs ls Q C hH hL hE => lv_icmp_le C.1.1 C.1.2.1 hd ht (fun h => kt ((i_le hx hy).mp h) p e R s m args below meth c b fa fv cy D H locs ls Q C hH hL hE) (fun h => kf (fun q => h ((i_le hx hy).mpr q)) p e R s m args below meth c b fa fv cy D H locs ls Q C hH hL hE)
theorem sw_if_eq {x off : Int} {tgt : Nat} (hd : decode me.2.1 pc = .ok (.ifCond .eq off, 3)) (ht : (pc : Int) + off = (tgt : Int)) (hx : -2147483648 ≤ x ∧ x < 2147483648) (kt : x = 0 → SW G j me tgt lo st M B post) (kf : ¬ x = 0 → SW G j me (pc + 3) lo st M B post) : SW G j me pc lo (vi x :: st) M B post :=
  fun p e R s m args below meth c b fa fv cy D H locs ls Q C hH hL hE => lv_if_eq C.1.1 C.1.2.1 hd ht (fun h => kt ((i_eq hx z32).mp h) p e R s m args below meth c b fa fv cy D H locs ls Q C hH hL hE) (fun h => kf (fun q => h ((i_eq hx z32).mpr q)) p e R s m args below meth c b fa fv cy D H locs ls Q C hH hL hE)
theorem sw_if_ne {x off : Int} {tgt : Nat} (hd : decode me.2.1 pc = .ok (.ifCond .ne off, 3)) (ht : (pc : Int) + off = (tgt : Int)) (hx : -2147483648 ≤ x ∧ x < 2147483648) (kt : x ≠ 0 → SW G j me tgt lo st M B post) (kf : x = 0 → SW G j me (pc + 3) lo st M B post) : SW G j me pc lo (vi x :: st) M B post :=
  fun p e R s m args below meth c b fa fv cy D H locs ls Q C hH hL hE => lv_if_ne C.1.1 C.1.2.1 hd ht (fun h => kt (fun q => h ((i_eq hx z32).mpr q)) p e R s m args below meth c b fa fv cy D H locs ls Q C hH hL hE) (fun h => kf ((i_eq hx z32).mp h) p e R s m args below meth c b fa fv cy D H locs ls Q C hH hL hE)
theorem sw_if_lt {x off : Int} {tgt : Nat} (hd : decode me.2.1 pc = .ok (.ifCond .lt off, 3)) (ht : (pc : Int) + off = (tgt : Int)) (hx : -2147483648 ≤ x ∧ x < 2147483648) (kt : x < 0 → SW G j me tgt lo st M B post) (kf : ¬ x < 0 → SW G j me (pc + 3) lo st M B post) : SW G j me pc lo (vi x :: st) M B post :=
  fun p e R s m args below meth c b fa fv cy D H locs ls Q C hH hL hE => lv_if_lt C.1.1 C.1.2.1 hd ht (fun h => kt ((i_lt hx z32).mp h) p e R s m args below meth c b fa fv cy D H locs ls Q C hH hL hE) (fun h => kf (fun q => h ((i_lt hx z32).mpr q)) p e R s m args below meth c b fa fv cy D H locs ls Q C hH hL hE)
theorem sw_if_ge {x off : Int} {tgt : Nat} (hd : decode me.2.1 pc = .ok (.ifCond .ge off, 3)) (ht : (pc : Int) + off = (tgt : Int)) (hx : -2147483648 ≤ x ∧ x < 2147483648) (kt : 0 ≤ x → SW G j me tgt lo st M B post) (kf : ¬ 0 ≤ x → SW G j me (pc + 3) lo st M B post) : SW G j me pc lo (vi x :: st) M B post :=
  fun p e R s m args below meth c b fa fv cy D H locs ls Q C hH hL hE => lv_if_ge C.1.1 C.1.2.1 hd ht (fun h => kt ((i_le z32 hx).mp h) p e R s m args below meth c b fa fv cy D H locs ls Q C hH hL hE) (fun h => kf (fun q => h ((i_le z32 hx).mpr q)) p e R s m args below meth c b fa fv cy D H locs ls Q C hH hL hE)
theorem sw_if_gt {x off : Int} {tgt : Nat} (hd : decode me.2.1 pc = .ok (.ifCond .gt off, 3)) (ht : (pc : Int) + off = (tgt : Int)) (hx : -2147483648 ≤ x ∧ x < 2147483648) (kt : 0 < x → SW G j me tgt lo st M B post) (kf : ¬ 0 < x → SW G j me (pc + 3) lo st M B post) : SW G j me pc lo (vi x :: st) M B post :=
  fun p e R s m args below meth c b fa fv cy D H locs ls Q C hH hL hE => lv_if_gt C.1.1 C.1.2.1 hd ht (fun h => kt ((i_lt z32 hx).mp h) p e R s m args below meth c b fa fv cy D H locs ls Q C hH hL hE) (fun h => kf (fun q => h ((i_lt z32 hx).mpr q)) p e R s m args below meth c b fa fv cy D H locs ls Q C hH hL hE)
theorem sw_if_le {x off : Int} {tgt : Nat} (hd : decode me.2.1 pc = .ok (.ifCond .le off, 3)) (ht : (pc : Int) + off = (tgt : Int)) (hx : -2147483648 ≤ x ∧ x < 2147483648) (kt : x ≤ 0 → SW G j me tgt lo st M B post) (kf : ¬ x ≤ 0 → SW G j me (pc + 3) lo st M B post) : SW G j me pc lo (vi x :: st) M B post :=
  fun p e R s m args below meth c b fa fv cy D H locs ls Q C hH hL hE => lv_if_le C.1.1 C.1.2.1 hd ht (fun h => kt ((i_le hx z32).mp h) p e R s m args below meth c b fa fv cy D H locs ls Q C hH hL hE) (fun h => kf (fun q => h ((i_le hx z32).mpr q)) p e R s m args below meth c b fa fv cy D H locs ls Q C hH hL hE)
theorem sw_goto {off : Int} {tgt : Nat} (hd : decode me.2.1 pc = .ok (.goto off, 3)) (ht : (pc : Int) + off = (tgt : Int)) (K : SW G j me tgt lo st M B post) : SW G j me pc lo st M B post :=
  fun p e R s m args below meth c b fa fv cy D H locs ls Q C hH hL hE => lv_goto C.1.1 C.1.2.1 hd ht (K p e R s m args below meth c b fa fv cy D H locs ls Q C hH hL hE)
theorem lg_cmp_of {x y : Int} (hx : -9223372036854775808 ≤ x ∧ x < 9223372036854775808) (hy : -9223372036854775808 ≤ y ∧ y < 9223372036854775808) : lg_cmp (Int64.ofInt x) (Int64.ofInt y) = if y < x then 1 else if x = y then 0 else -1 := by
  unfold lg_cmp
  by_cases h1 : y < x
  · rw [if_pos h1, if_pos ((l_lt hy hx).mpr h1)]
  · rw [if_neg h1, if_neg (fun q => h1 ((l_lt hy hx).mp q))]
    by_cases h2 : x = y
    · rw [if_pos h2, if_pos ((l_eq hx hy).mpr h2)]
    · rw [if_neg h2, if_neg (fun q => h2 ((l_eq hx hy).mp q))]
theorem sw_lcmp_eq {x y off : Int} {tgt : Nat} (hd : decode me.2.1 pc = .ok (.lcmp, 1)) (hd2 : decode me.2.1 (pc + 1) = .ok (.ifCond .eq off, 3)) (ht : ((pc + 1 : Nat) : Int) + off = (tgt : Int)) (hx : -9223372036854775808 ≤ x ∧ x < 9223372036854775808) (hy : -9223372036854775808 ≤ y ∧ y < 9223372036854775808) (kt : x = y → SW G j me tgt lo st M B post) (kf : ¬ (x = y) → SW G j me (pc + 4) lo st M B post) : SW G j me pc lo (vl y :: vl x :: st) M B post := by
  intro p e R s m args below meth c b fa fv cy D H locs ls Q C hH hL hE
  refine W.lcmp C.1.1 C.1.2.1 hd ?_
  rw [lg_cmp_of hx hy]
  refine lv_if_eq C.1.1 C.1.2.1 hd2 ht (fun h => kt ?_ p e R s m args below meth c b fa fv cy D H locs ls Q C hH hL hE) (fun h => kf ?_ p e R s m args below meth c b fa fv cy D H locs ls Q C hH hL hE)
  · revert h
    by_cases h1 : y < x
    · rw [if_pos h1]; intro h; first | omega | (exfalso; revert h; decide)
    · rw [if_neg h1]
      by_cases h2 : x = y
      · rw [if_pos h2]; intro h; first | omega | (exfalso; revert h; decide)
      · rw [if_neg h2]; intro h; first | omega | (exfalso; revert h; decide)
  · revert h
    by_cases h1 : y < x
    · rw [if_pos h1]; intro h; first | omega | (exfalso; revert h; decide)
    · rw [if_neg h1]
      by_cases h2 : x = y
      · rw [if_pos h2]; intro h; first | omega | (exfalso; revert h; decide)
      · rw [if_neg h2]; intro h; first | omega | (exfalso; revert h; decide)
theorem sw_lcmp_ne {x y off : Int} {tgt : Nat} (hd : decode me.2.1 pc = .ok (.lcmp, 1)) (hd2 : decode me.2.1 (pc + 1) = .ok (.ifCond .ne off, 3)) (ht : ((pc + 1 : Nat) : Int) + off = (tgt : Int)) (hx : -9223372036854775808 ≤ x ∧ x < 9223372036854775808) (hy : -9223372036854775808 ≤ y ∧ y < 9223372036854775808) (kt : x ≠ y → SW G j me tgt lo st M B post) (kf : x = y → SW G j me (pc + 4) lo st M B post) : SW G j me pc lo (vl y :: vl x :: st) M B post := by
  intro p e R s m args below meth c b fa fv cy D H locs ls Q C hH hL hE
  refine W.lcmp C.1.1 C.1.2.1 hd ?_
  rw [lg_cmp_of hx hy]
  refine lv_if_ne C.1.1 C.1.2.1 hd2 ht (fun h => kt ?_ p e R s m args below meth c b fa fv cy D H locs ls Q C hH hL hE) (fun h => kf ?_ p e R s m args below meth c b fa fv cy D H locs ls Q C hH hL hE)
  · revert h
    by_cases h1 : y < x
    · rw [if_pos h1]; intro h; first | omega | (exfalso; revert h; decide)
    · rw [if_neg h1]
      by_cases h2 : x = y
      · rw [if_pos h2]; intro h; first | omega | (exfalso; revert h; decide)
      · rw [if_neg h2]; intro h; first | omega | (exfalso; revert h; decide)
  · revert h
    by_cases h1 : y < x
    · rw [if_pos h1]; intro h; first | omega | (exfalso; revert h; decide)
    · rw [if_neg h1]
      by_cases h2 : x = y
      · rw [if_pos h2]; intro h; first | omega | (exfalso; revert h; decide)
      · rw [if_neg h2]; intro h; first | omega | (exfalso; revert h; decide)
theorem sw_lcmp_lt {x y off : Int} {tgt : Nat} (hd : decode me.2.1 pc = .ok (.lcmp, 1)) (hd2 : decode me.2.1 (pc + 1) = .ok (.ifCond .lt off, 3)) (ht : ((pc + 1 : Nat) : Int) + off = (tgt : Int)) (hx : -9223372036854775808 ≤ x ∧ x < 9223372036854775808) (hy : -9223372036854775808 ≤ y ∧ y < 9223372036854775808) (kt : x < y → SW G j me tgt lo st M B post) (kf : ¬ (x < y) → SW G j me (pc + 4) lo st M B post) : SW G j me pc lo (vl y :: vl x :: st) M B post := by
  intro p e R s m args below meth c b fa fv cy D H locs ls Q C hH hL hE
  refine W.lcmp C.1.1 C.1.2.1 hd ?_
  rw [lg_cmp_of hx hy]
  refine lv_if_lt C.1.1 C.1.2.1 hd2 ht (fun h => kt ?_ p e R s m args below meth c b fa fv cy D H locs ls Q C hH hL hE) (fun h => kf ?_ p e R s m args below meth c b fa fv cy D H locs ls Q C hH hL hE)
  · revert h
    by_cases h1 : y < x
    · rw [if_pos h1]; intro h; first | omega | (exfalso; revert h; decide)
    · rw [if_neg h1]
      by_cases h2 : x = y
      · rw [if_pos h2]; intro h; first | omega | (exfalso; revert h; decide)
      · rw [if_neg h2]; intro h; first | omega | (exfalso; revert h; decide)
  · revert h
    by_cases h1 : y < x
    · rw [if_pos h1]; intro h; first | omega | (exfalso; revert h; decide)
    · rw [if_neg h1]
      by_cases h2 : x = y
      · rw [if_pos h2]; intro h; first | omega | (exfalso; revert h; decide)
      · rw [if_neg h2]; intro h; first | omega | (exfalso; revert h; decide)
theorem sw_lcmp_ge {x y off : Int} {tgt : Nat} (hd : decode me.2.1 pc = .ok (.lcmp, 1)) (hd2 : decode me.2.1 (pc + 1) = .ok (.ifCond .ge off, 3)) (ht : ((pc + 1 : Nat) : Int) + off = (tgt : Int)) (hx : -9223372036854775808 ≤ x ∧ x < 9223372036854775808) (hy : -9223372036854775808 ≤ y ∧ y < 9223372036854775808) (kt : y ≤ x → SW G j me tgt lo st M B post) (kf : ¬ (y ≤ x) → SW G j me (pc + 4) lo st M B post) : SW G j me pc lo (vl y :: vl x :: st) M B post := by
  intro p e R s m args below meth c b fa fv cy D H locs ls Q C hH hL hE
  refine W.lcmp C.1.1 C.1.2.1 hd ?_
  rw [lg_cmp_of hx hy]
  refine lv_if_ge C.1.1 C.1.2.1 hd2 ht (fun h => kt ?_ p e R s m args below meth c b fa fv cy D H locs ls Q C hH hL hE) (fun h => kf ?_ p e R s m args below meth c b fa fv cy D H locs ls Q C hH hL hE)
  · revert h
    by_cases h1 : y < x
    · rw [if_pos h1]; intro h; first | omega | (exfalso; revert h; decide)
    · rw [if_neg h1]
      by_cases h2 : x = y
      · rw [if_pos h2]; intro h; first | omega | (exfalso; revert h; decide)
      · rw [if_neg h2]; intro h; first | omega | (exfalso; revert h; decide)
  · revert h
    by_cases h1 : y < x
    · rw [if_pos h1]; intro h; first | omega | (exfalso; revert h; decide)
    · rw [if_neg h1]
      by_cases h2 : x = y
      · rw [if_pos h2]; intro h; first | omega | (exfalso; revert h; decide)
      · rw [if_neg h2]; intro h; first | omega | (exfalso; revert h; decide)
theorem sw_lcmp_gt {x y off : Int} {tgt : Nat} (hd : decode me.2.1 pc = .ok (.lcmp, 1)) (hd2 : decode me.2.1 (pc + 1) = .ok (.ifCond .gt off, 3)) (ht : ((pc + 1 : Nat) : Int) + off = (tgt : Int)) (hx : -9223372036854775808 ≤ x ∧ x < 9223372036854775808) (hy : -9223372036854775808 ≤ y ∧ y < 9223372036854775808) (kt : y < x → SW G j me tgt lo st M B post) (kf : ¬ (y < x) → SW G j me (pc + 4) lo st M B post) : SW G j me pc lo (vl y :: vl x :: st) M B post := by
  intro p e R s m args below meth c b fa fv cy D H locs ls Q C hH hL hE
  refine W.lcmp C.1.1 C.1.2.1 hd ?_
  rw [lg_cmp_of hx hy]
  refine lv_if_gt C.1.1 C.1.2.1 hd2 ht (fun h => kt ?_ p e R s m args below meth c b fa fv cy D H locs ls Q C hH hL hE) (fun h => kf ?_ p e R s m args below meth c b fa fv cy D H locs ls Q C hH hL hE)
  · revert h
    by_cases h1 : y < x
    · rw [if_pos h1]; intro h; first | omega | (exfalso; revert h; decide)
    · rw [if_neg h1]
      by_cases h2 : x = y
      · rw [if_pos h2]; intro h; first | omega | (exfalso; revert h; decide)
      · rw [if_neg h2]; intro h; first | omega | (exfalso; revert h; decide)
  · revert h
    by_cases h1 : y < x
    · rw [if_pos h1]; intro h; first | omega | (exfalso; revert h; decide)
    · rw [if_neg h1]
      by_cases h2 : x = y
      · rw [if_pos h2]; intro h; first | omega | (exfalso; revert h; decide)
      · rw [if_neg h2]; intro h; first | omega | (exfalso; revert h; decide)
theorem sw_lcmp_le {x y off : Int} {tgt : Nat} (hd : decode me.2.1 pc = .ok (.lcmp, 1)) (hd2 : decode me.2.1 (pc + 1) = .ok (.ifCond .le off, 3)) (ht : ((pc + 1 : Nat) : Int) + off = (tgt : Int)) (hx : -9223372036854775808 ≤ x ∧ x < 9223372036854775808) (hy : -9223372036854775808 ≤ y ∧ y < 9223372036854775808) (kt : x ≤ y → SW G j me tgt lo st M B post) (kf : ¬ (x ≤ y) → SW G j me (pc + 4) lo st M B post) : SW G j me pc lo (vl y :: vl x :: st) M B post := by
  intro p e R s m args below meth c b fa fv cy D H locs ls Q C hH hL hE
  refine W.lcmp C.1.1 C.1.2.1 hd ?_
  rw [lg_cmp_of hx hy]
  refine lv_if_le C.1.1 C.1.2.1 hd2 ht (fun h => kt ?_ p e R s m args below meth c b fa fv cy D H locs ls Q C hH hL hE) (fun h => kf ?_ p e R s m args below meth c b fa fv cy D H locs ls Q C hH hL hE)
  · revert h
    by_cases h1 : y < x
    · rw [if_pos h1]; intro h; first | omega | (exfalso; revert h; decide)
    · rw [if_neg h1]
      by_cases h2 : x = y
      · rw [if_pos h2]; intro h; first | omega | (exfalso; revert h; decide)
      · rw [if_neg h2]; intro h; first | omega | (exfalso; revert h; decide)
  · revert h
    by_cases h1 : y < x
    · rw [if_pos h1]; intro h; first | omega | (exfalso; revert h; decide)
    · rw [if_neg h1]
      by_cases h2 : x = y
      · rw [if_pos h2]; intro h; first | omega | (exfalso; revert h; decide)
      · rw [if_neg h2]; intro h; first | omega | (exfalso; revert h; decide)
end RU
