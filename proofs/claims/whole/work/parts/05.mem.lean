/-! RULES: fields, arrays, calls, returns -/
theorem cf_ok : ∀ (ci : Nat) (q : vw_C), vwCl[ci]? = some q → (∀ w ∈ u_ws q.1 q.2.1 q.2.2, w ∈ wsG) ∧ ∃ ty0 : Nat → FieldType, (∀ k, k < q.2.2 → parseFieldDescriptor (q.2.1 k).2.2.1 = some (ty0 k)) ∧ (∀ a, a < q.2.2 → ∀ b, b < q.2.2 → a ≠ b → (q.2.1 a).2.1 ≠ (q.2.1 b).2.1) := by
  intro ci q hq
  match ci, hq with
  | 0, hq => cases hq; exact ⟨by decide +kernel, tyX0, tyX0_ok, nmX0⟩
  | 1, hq => cases hq; exact ⟨by decide +kernel, tyX1, tyX1_ok, nmX1⟩
  | 2, hq => cases hq; exact ⟨by decide +kernel, tyX2, tyX2_ok, nmX2⟩
  | 3, hq => cases hq; exact ⟨by decide +kernel, tyX3, tyX3_ok, nmX3⟩
  | 4, hq => cases hq; exact ⟨by decide +kernel, tyX4, tyX4_ok, nmX4⟩
  | 5, hq => cases hq; exact ⟨by decide +kernel, tyX5, tyX5_ok, nmX5⟩
  | 6, hq => cases hq; exact ⟨by decide +kernel, tyX6, tyX6_ok, nmX6⟩
  | 7, hq => cases hq; exact ⟨by decide +kernel, tyX7, tyX7_ok, nmX7⟩
  | 8, hq => cases hq; exact ⟨by decide +kernel, tyX8, tyX8_ok, nmX8⟩
  | 9, hq => cases hq; exact ⟨by decide +kernel, tyX9, tyX9_ok, nmX9⟩
  | k + 10, hq => simp [vwCl] at hq
/-- a field by its place in a pool: class ci, field k, final or not, its type -/
def FP (own : String) (ix ci k : Nat) (fin : Bool) (ty : FieldType) : Prop := ∃ q : vw_C, vwCl[ci]? = some q ∧ k < q.2.2 ∧ Cond.fieldLink own ix (q.2.1 k).1 (q.2.1 k).2.1 (q.2.1 k).2.2.1 ∈ wsG ∧ (q.2.1 k).2.2.2 = fin ∧ parseFieldDescriptor (q.2.1 k).2.2.1 = some ty
section RM
variable {G : GG} {j : Nat} {me : Mth} {pc : Nat} {lo lo' : List (Option AV)} {st : List AV} {sh : Nat → Sh} {n : Nat} {c0 : Nat → Nat → Int} {M : AM} {B : BB} {post : Option AV → AM → Prop}
theorem ce_obj {b : Nat} {cy : Nat → ClassId} {M : AM} {a ci : Nat} {refs : List (Option Nat)} (ha : a < M.2.1) (hsh : M.1 a = .inr (ci, refs)) : (wl b cy M)[a]? = some (b + a, .inr (ci, fvs b ci refs (M.2.2 a))) := by
  rw [wl_get ha, hsh]; rfl
theorem ce_arr {b : Nat} {cy : Nat → ClassId} {M : AM} {a ty len : Nat} (ha : a < M.2.1) (hsh : M.1 a = .inl (ty, len)) (ht : ty ≠ 3) : (wl b cy M)[a]? = some (b + a, .inl (cy ty, len, .inl (fun k => Int32.ofInt (M.2.2 a k)))) := by
  rw [wl_get ha, hsh]; simp [ce, ht]
theorem ce_arrL {b : Nat} {cy : Nat → ClassId} {M : AM} {a len : Nat} (ha : a < M.2.1) (hsh : M.1 a = .inl (3, len)) : (wl b cy M)[a]? = some (b + a, .inl (cy 3, len, .inr (.inl (fun k => Int64.ofInt (M.2.2 a k))))) := by
  rw [wl_get ha, hsh]; simp [ce]
theorem sw_getf {ix ci k t a : Nat} {fin : Bool} {ty : FieldType} {refs : List (Option Nat)} {v : AV} (hd : decode me.2.1 pc = .ok (.getfield ix, 3)) (hf : FP me.2.2.2.2 ix ci k fin ty) (ha : a < M.2.1) (hsh : M.1 a = .inr (ci, refs)) (ht : (fty ci)[k]? = some t)
    (hv : ∀ (b : Nat) (fa : Nat → Nat), fvv b refs (M.2.2 a) t k = cv b fa v) (K : SW G j me (pc + 3) lo (v :: st) M B post) : SW G j me pc lo (vr a :: st) M B post := by
  intro p e R s m args below meth c b fa fv cy D H locs ls Q C hH hL hE
  obtain ⟨q, h1, h2, h3, -⟩ := hf
  refine va_get C.1.1 C.1.2.1 C.2.1 (cf_ok ci q h1).1 C.1.2.2.2.2.2.1 C.2.2.1 hH.2.1 a (ce_obj ha hsh) h1 k h2 (C.2.1 _ h3) (fun _ h => h) (v := cv b fa v) ?_ hd (K p e R s m args below meth c b fa fv cy D H locs ls Q C hH hL hE)
  rw [fvs_get ht, hv b fa]
theorem sw_getI {ix ci k a : Nat} {fin : Bool} {ty : FieldType} {refs : List (Option Nat)} (hd : decode me.2.1 pc = .ok (.getfield ix, 3)) (hf : FP me.2.2.2.2 ix ci k fin ty) (ha : a < M.2.1) (hsh : M.1 a = .inr (ci, refs)) (ht : (fty ci)[k]? = some 0)
    (K : SW G j me (pc + 3) lo (vi (M.2.2 a k) :: st) M B post) : SW G j me pc lo (vr a :: st) M B post := sw_getf hd hf ha hsh ht (fun _ _ => rfl) K
theorem sw_getL {ix ci k a : Nat} {fin : Bool} {ty : FieldType} {refs : List (Option Nat)} (hd : decode me.2.1 pc = .ok (.getfield ix, 3)) (hf : FP me.2.2.2.2 ix ci k fin ty) (ha : a < M.2.1) (hsh : M.1 a = .inr (ci, refs)) (ht : (fty ci)[k]? = some 1)
    (K : SW G j me (pc + 3) lo (vl (M.2.2 a k) :: st) M B post) : SW G j me pc lo (vr a :: st) M B post := sw_getf hd hf ha hsh ht (fun _ _ => rfl) K
theorem sw_getR {ix ci k a r : Nat} {fin : Bool} {ty : FieldType} {refs : List (Option Nat)} (hd : decode me.2.1 pc = .ok (.getfield ix, 3)) (hf : FP me.2.2.2.2 ix ci k fin ty) (ha : a < M.2.1) (hsh : M.1 a = .inr (ci, refs)) (ht : (fty ci)[k]? = some 2) (hr : refs[k]? = some (some r))
    (K : SW G j me (pc + 3) lo (vr r :: st) M B post) : SW G j me pc lo (vr a :: st) M B post := sw_getf hd hf ha hsh ht (fun b fa => by simp [fvv, hr, cv, va_rf]) K
theorem Hp.set {b : Nat} {cy : Nat → ClassId} {D : va_G} {M' : AM} {s : State} {H H1 : Heap} {locs locs1 : List Loc} (hH : Hp b cy D M s H locs) (e1 : va_P D vwCl (wl b cy M') H1) (hn : M'.2.1 = M.2.1) (e3 : va_S (A_ b) s.heap H1 locs1) (hz : H1.size = H.size) : Hp b cy D M' s H1 locs1 := ⟨by rw [hz, hH.1, hn], e1, e3⟩
/-- the world's cells fill the heap from b on: so its size is known -/
theorem wl_size {b : Nat} {cy : Nat → ClassId} {D : va_G} {M : AM} {H : Heap} (h : va_P D vwCl (wl b cy M) H) {i : Nat} (hi : i < M.2.1) : b + i < H.size := (h i _ (wl_get hi)).lt
/-- after a store in cell a (address b + a), the new world -/
theorem Hp.store {b : Nat} {cy : Nat → ClassId} {D : va_G} {M M' : AM} {s : State} {H H1 : Heap} {locs : List Loc} {a k : Nat} {e : va_E} (hH : Hp b cy D M s H locs) (ha : a < M.2.1) (hw : (wl b cy M).set a (b + a, e) = wl b cy M') (hn : M'.2.1 = M.2.1)
    (he : va_at D vwCl (b + a, e) H1) (z : H1.size = H.size) (oq : ∀ q : Nat, q ≠ b + a → H1[q]? = H[q]?) : Hp b cy D M' s H1 (locs ++ [⟨b + a, k⟩]) :=
  ⟨by rw [z, hH.1, hn], hw ▸ hH.2.1.set wl_D (wl_get ha) he oq, hH.2.2.put z oq (Nat.le_add_right _ _)⟩
theorem fn_upd {f : Nat → Int} {k : Nat} {z : Int} : (fun q => Value.int (Int32.ofInt (if q = k then z else f q))) = updV (fun q => .int (Int32.ofInt (f q))) k (.int (Int32.ofInt z)) := by
  funext q
  by_cases h : q = k <;> simp [updV, h]
theorem fn_updL {f : Nat → Int} {k : Nat} {z : Int} : (fun q => Value.long (Int64.ofInt (if q = k then z else f q))) = updV (fun q => .long (Int64.ofInt (f q))) k (.long (Int64.ofInt z)) := by
  funext q
  by_cases h : q = k <;> simp [updV, h]
theorem up2_on {c : Nat → Nat → Int} {i k : Nat} {z : Int} : up2 c i k z i = fun q => if q = k then z else c i q := by
  funext q
  simp [up2]
theorem arr_at {b : Nat} {cy : Nat → ClassId} {D : va_G} {M : AM} {s : State} {H : Heap} {locs : List Loc} {a ty len : Nat} (hH : Hp b cy D M s H locs) (ha : a < M.2.1) (hsh : M.1 a = .inl (ty, len)) (ht : ty ≠ 3) : H[b + a]? = some (arrV (cy ty) len (fun q => .int (Int32.ofInt (M.2.2 a q)))) :=
  hH.2.1 a _ (ce_arr ha hsh ht)
theorem arr_atL {b : Nat} {cy : Nat → ClassId} {D : va_G} {M : AM} {s : State} {H : Heap} {locs : List Loc} {a len : Nat} (hH : Hp b cy D M s H locs) (ha : a < M.2.1) (hsh : M.1 a = .inl (3, len)) : H[b + a]? = some (arrV (cy 3) len (fun q => .long (Int64.ofInt (M.2.2 a q)))) :=
  hH.2.1 a _ (ce_arrL ha hsh)
theorem st_arr {b : Nat} {cy : Nat → ClassId} {D : va_G} {s : State} {H H1 : Heap} {locs : List Loc} {a ty len k : Nat} {z : Int} (hH : Hp b cy D (sh, n, c0) s H locs) (ha : a < n) (hsh : sh a = .inl (ty, len)) (ht : ty ≠ 3)
    (e : H1[b + a]? = some ((arrV (cy ty) len (fun q => .int (Int32.ofInt (c0 a q)))).setSlot k (.int (Int32.ofInt z)))) (z1 : H1.size = H.size) (oq : ∀ q : Nat, q ≠ b + a → H1[q]? = H[q]?) : Hp b cy D (sh, n, up2 c0 a k z) s H1 (locs ++ [⟨b + a, k⟩]) := by
  refine hH.store (e := ce b cy (sh a) (up2 c0 a k z a)) ha wl_up2 rfl ?_ z1 oq
  rw [hsh, up2_on]
  show H1[b + a]? = some (vp_cell _ _)
  rw [e, arrV_store, ← fn_upd]
  simp [ht, vp_cell]
theorem st_arrL {b : Nat} {cy : Nat → ClassId} {D : va_G} {s : State} {H H1 : Heap} {locs : List Loc} {a len k : Nat} {z : Int} (hH : Hp b cy D (sh, n, c0) s H locs) (ha : a < n) (hsh : sh a = .inl (3, len))
    (e : H1[b + a]? = some ((arrV (cy 3) len (fun q => .long (Int64.ofInt (c0 a q)))).setSlot k (.long (Int64.ofInt z)))) (z1 : H1.size = H.size) (oq : ∀ q : Nat, q ≠ b + a → H1[q]? = H[q]?) : Hp b cy D (sh, n, up2 c0 a k z) s H1 (locs ++ [⟨b + a, k⟩]) := by
  refine hH.store (e := ce b cy (sh a) (up2 c0 a k z a)) ha wl_up2 rfl ?_ z1 oq
  rw [hsh, up2_on]
  show H1[b + a]? = some (vp_cell _ _)
  rw [e, arrV_store, ← fn_updL]
  simp [vp_cell]
theorem sw_iald {a len : Nat} {z : Int} (hd : decode me.2.1 pc = .ok (.iaload, 1)) (ha : a < M.2.1) (hsh : M.1 a = .inl (0, len)) (hl : len < 2147483648) (h0 : 0 ≤ z) (h1 : z < (len : Int)) (K : SW G j me (pc + 1) lo (vi (M.2.2 a z.toNat) :: st) M B post) : SW G j me pc lo (vi z :: vr a :: st) M B post := by
  intro p e R s m args below meth c b fa fv cy D H locs ls Q C hH hL hE
  obtain ⟨i1, i2⟩ := oI_in h0 h1 hl
  refine va_iald C.1.1 C.1.2.1 C.2.2.1 hH.2.1 a 0 (ce_arr ha hsh (by decide)) rfl i1 hd ?_
  rw [i2]
  exact K p e R s m args below meth c b fa fv cy D H locs ls Q C hH hL hE
theorem sw_bald {a len : Nat} {z : Int} (hd : decode me.2.1 pc = .ok (.baload, 1)) (ha : a < M.2.1) (hsh : M.1 a = .inl (1, len)) (hl : len < 2147483648) (h0 : 0 ≤ z) (h1 : z < (len : Int)) (K : SW G j me (pc + 1) lo (vi (M.2.2 a z.toNat) :: st) M B post) : SW G j me pc lo (vi z :: vr a :: st) M B post := by
  intro p e R s m args below meth c b fa fv cy D H locs ls Q C hH hL hE
  obtain ⟨i1, i2⟩ := oI_in h0 h1 hl
  refine va_bald C.1.1 C.1.2.1 C.2.2.1 hH.2.1 a 1 (ce_arr ha hsh (by decide)) rfl i1 hd ?_
  rw [i2]
  exact K p e R s m args below meth c b fa fv cy D H locs ls Q C hH hL hE
theorem sw_zald {a len : Nat} {z : Int} (hd : decode me.2.1 pc = .ok (.baload, 1)) (ha : a < M.2.1) (hsh : M.1 a = .inl (2, len)) (hl : len < 2147483648) (h0 : 0 ≤ z) (h1 : z < (len : Int)) (K : SW G j me (pc + 1) lo (vi (M.2.2 a z.toNat) :: st) M B post) : SW G j me pc lo (vi z :: vr a :: st) M B post := by
  intro p e R s m args below meth c b fa fv cy D H locs ls Q C hH hL hE
  obtain ⟨i1, i2⟩ := oI_in h0 h1 hl
  refine va_zald C.1.1 C.1.2.1 C.2.2.1 hH.2.1 a 2 (ce_arr ha hsh (by decide)) rfl i1 hd ?_
  rw [i2]
  exact K p e R s m args below meth c b fa fv cy D H locs ls Q C hH hL hE
theorem sw_lald {a len : Nat} {z : Int} (hd : decode me.2.1 pc = .ok (.laload, 1)) (ha : a < M.2.1) (hsh : M.1 a = .inl (3, len)) (hl : len < 2147483648) (h0 : 0 ≤ z) (h1 : z < (len : Int)) (K : SW G j me (pc + 1) lo (vl (M.2.2 a z.toNat) :: st) M B post) : SW G j me pc lo (vi z :: vr a :: st) M B post := by
  intro p e R s m args below meth c b fa fv cy D H locs ls Q C hH hL hE
  obtain ⟨i1, i2⟩ := oI_in h0 h1 hl
  refine va_lald C.1.1 C.1.2.1 C.2.2.1 hH.2.1 a 3 (ce_arrL ha hsh) rfl i1 hd ?_
  rw [i2]
  exact K p e R s m args below meth c b fa fv cy D H locs ls Q C hH hL hE
theorem sw_alen {a ty len : Nat} (hd : decode me.2.1 pc = .ok (.arraylength, 1)) (ha : a < M.2.1) (hsh : M.1 a = .inl (ty, len)) (ht : ty < 3) (K : SW G j me (pc + 1) lo (vi (len : Int) :: st) M B post) : SW G j me pc lo (vr a :: st) M B post := by
  intro p e R s m args below meth c b fa fv cy D H locs ls Q C hH hL hE
  obtain ⟨t, et⟩ : ∃ t, (tyl cy)[ty]? = some (cy ty, t) := by
    match ty, ht with
    | 0, _ => exact ⟨_, rfl⟩
    | 1, _ => exact ⟨_, rfl⟩
    | 2, _ => exact ⟨_, rfl⟩
  exact va_alen C.1.1 C.1.2.1 C.2.2.1 hH.2.1 a ty (ce_arr ha hsh (by omega)) et (v := Int32.ofInt (len : Int)) (by rfl) hd (K p e R s m args below meth c b fa fv cy D H locs ls Q C hH hL hE)
theorem sw_iast {a len : Nat} {z x : Int} (hd : decode me.2.1 pc = .ok (.iastore, 1)) (ha : a < n) (hsh : sh a = .inl (0, len)) (hl : len < 2147483648) (h0 : 0 ≤ z) (h1 : z < (len : Int)) (K : SW G j me (pc + 1) lo st (sh, n, up2 c0 a z.toNat x) B post) : SW G j me pc lo (vi x :: vi z :: vr a :: st) (sh, n, c0) B post := by
  intro p e R s m args below meth c b fa fv cy D H locs ls Q C hH hL hE
  obtain ⟨i1, i2⟩ := oI_in h0 h1 hl
  refine W.iast C.1.1 C.1.2.1 (arr_at hH ha hsh (by decide)) ((C.2.2.1.2 0 _ rfl).1 len _) (fun q => by cases q) (by rw [arrV_size]; exact i1) rfl rfl hd fun H1 e1 z1 oq => ?_
  rw [i2] at e1 ⊢
  exact K p e R s m args below meth c b fa fv cy D H1 _ ls Q C (st_arr hH ha hsh (by decide) e1 z1 oq) hL hE
theorem sw_last {a len : Nat} {z x : Int} (hd : decode me.2.1 pc = .ok (.lastore, 1)) (ha : a < n) (hsh : sh a = .inl (3, len)) (hl : len < 2147483648) (h0 : 0 ≤ z) (h1 : z < (len : Int)) (K : SW G j me (pc + 1) lo st (sh, n, up2 c0 a z.toNat x) B post) : SW G j me pc lo (vl x :: vi z :: vr a :: st) (sh, n, c0) B post := by
  intro p e R s m args below meth c b fa fv cy D H locs ls Q C hH hL hE
  obtain ⟨i1, i2⟩ := oI_in h0 h1 hl
  refine W.last C.1.1 C.1.2.1 (arr_atL hH ha hsh) ((C.2.2.1.2 3 _ rfl).1 len _) (fun q => by cases q) (by rw [arrV_size]; exact i1) rfl rfl hd fun H1 e1 z1 oq => ?_
  rw [i2] at e1 ⊢
  exact K p e R s m args below meth c b fa fv cy D H1 _ ls Q C (st_arrL hH ha hsh e1 z1 oq) hL hE
theorem nar_b (x : Int) : narrow .byte (.int (Int32.ofInt x)) = .int (Int32.ofInt (b8 x)) := by
  rw [b8, i_of_toInt]; rfl
theorem sw_bast {a len : Nat} {z x : Int} (hd : decode me.2.1 pc = .ok (.bastore, 1)) (ha : a < n) (hsh : sh a = .inl (1, len)) (hl : len < 2147483648) (h0 : 0 ≤ z) (h1 : z < (len : Int)) (K : SW G j me (pc + 1) lo st (sh, n, up2 c0 a z.toNat (b8 x)) B post) : SW G j me pc lo (vi x :: vi z :: vr a :: st) (sh, n, c0) B post := by
  intro p e R s m args below meth c b fa fv cy D H locs ls Q C hH hL hE
  obtain ⟨i1, i2⟩ := oI_in h0 h1 hl
  refine W.bast C.1.1 C.1.2.1 (arr_at hH ha hsh (by decide)) ((C.2.2.1.2 1 _ rfl).1 len _) (fun q => by cases q) (by rw [arrV_size]; exact i1) rfl rfl hd fun H1 e1 z1 oq => ?_
  rw [i2, nar_b] at e1
  rw [i2]
  exact K p e R s m args below meth c b fa fv cy D H1 _ ls Q C (st_arr hH ha hsh (by decide) e1 z1 oq) hL hE
theorem sw_zast {a len : Nat} {z x : Int} (hd : decode me.2.1 pc = .ok (.bastore, 1)) (ha : a < n) (hsh : sh a = .inl (2, len)) (hl : len < 2147483648) (h0 : 0 ≤ z) (h1 : z < (len : Int)) (hx : x = 0 ∨ x = 1) (K : SW G j me (pc + 1) lo st (sh, n, up2 c0 a z.toNat x) B post) : SW G j me pc lo (vi x :: vi z :: vr a :: st) (sh, n, c0) B post := by
  intro p e R s m args below meth c b fa fv cy D H locs ls Q C hH hL hE
  obtain ⟨i1, i2⟩ := oI_in h0 h1 hl
  have hnar : narrow .boolean (.int (Int32.ofInt x)) = .int (Int32.ofInt x) := by rcases hx with rfl | rfl <;> rfl
  refine W.zast C.1.1 C.1.2.1 (arr_at hH ha hsh (by decide)) ((C.2.2.1.2 2 _ rfl).1 len _) (fun q => by cases q) (by rw [arrV_size]; exact i1) rfl rfl hd fun H1 e1 z1 oq => ?_
  rw [i2, hnar] at e1
  rw [i2]
  exact K p e R s m args below meth c b fa fv cy D H1 _ ls Q C (st_arr hH ha hsh (by decide) e1 z1 oq) hL hE
end RM
