/-! RULES: puts, new cells -/
section RP
variable {G : GG} {j : Nat} {me : Mth} {pc : Nat} {lo lo' : List (Option AV)} {st : List AV} {sh : Nat → Sh} {n : Nat} {c0 : Nat → Nat → Int} {B : BB} {post : Option AV → AM → Prop}
/-- a put into a field of the world's cell a: the heap has its size, one cell is new -/
theorem put_core {p : Program} {e : Env} {R : Room} {s : State} {m : MethodId} {args : Array Value} {below : List Frame} {meth : Method} {c : Code} {b : Nat} {fa fv : Nat → Nat} {cy : Nat → ClassId} {D : va_G} {H : Heap} {locs : List Loc} {ls : Array Slot} {Q : State → Prop} {mc ms cs sl : Nat} {M : AM} {rest : List Value}
    {ix ci k a : Nat} {fin : Bool} {ty : FieldType} {refs : List (Option Nat)} {v : Value} (C : Cx G j me mc ms p R s m args meth c b fa fv cy D) (hH : Hp b cy D M s H locs) (hd : decode me.2.1 pc = .ok (.putfield ix, 3)) (hf : FP me.2.2.2.2 ix ci k fin ty) (hi : fin = true → me.1.name = "<init>" ∧ ∃ q : vw_C, vwCl[ci]? = some q ∧ (q.2.1 k).1 = me.2.2.2.2)
    (ha : a < M.2.1) (hsh : M.1 a = .inr (ci, refs)) (hk : k < (fty ci).length) (hn : narrow ty v = v) (hfit : fits ty v = true)
    (kk : ∀ (H1 : Heap) (i : Nat), va_at D vwCl (b + a, .inr (ci, (fvs b ci refs (M.2.2 a)).set k v)) H1 → H1.size = H.size → (∀ q : Nat, q ≠ b + a → H1[q]? = H[q]?) → W p G.1 e R s m args below meth c H1 (locs ++ [⟨b + a, i⟩]) cs sl Q (F0 m (pc + 3) ls rest)) :
    W p G.1 e R s m args below meth c H locs cs sl Q (F0 m pc ls (v :: .ref (b + a) :: rest)) := by
  obtain ⟨⟨hx, hb, -, -, -, hown, hin⟩, hts, hK, -⟩ := C
  obtain ⟨⟨Cn, T, N⟩, hc, hkN, hlw, hfin, hty⟩ := hf
  obtain ⟨hws, ty0, hty0, hnm⟩ := cf_ok ci _ hc
  have hap := va_apart (own := me.2.2.2.2) hts hws ty0 hty0 hnm hK hc
  have hlen : k < (fvs b ci refs (M.2.2 a)).length := by rw [fvs_len]; exact hk
  obtain ⟨r, h1, cell, q1, q2, q3, q4⟩ := hH.2.1 a _ (ce_obj ha hsh)
  cases Option.some.inj (h1.symm.trans hc)
  obtain ⟨hS, hfc, kC, hkC, hkind⟩ := hK.1 ci _ hc
  obtain ⟨cf, kf, fi, f, hfound, hsl⟩ := hS k hkN
  have hst := (u_facts hfc hkC (u_lays hts hws hkN) hfound).1
  have hlay := hts _ (hws _ (u_in_lay hkN))
  have hroom : f.slot < cell.slots.size := by rw [hsl]; exact k2_hasslot (q4 k hkN)
  have done : ∀ H1 : Heap, H1[b + a]? = some (cell.setSlot f.slot v) → va_at D vwCl (b + a, .inr (ci, (fvs b ci refs (M.2.2 a)).set k v)) H1 := fun H1 e1 => by
    rw [hsl] at e1
    exact ⟨_, hc, t_OB.to (V := updV (vp_V _) k v) ⟨_, e1, q2, q3, t_set q4 hap hkN v⟩ (fun i _ => vp_updV_set hlen v i)⟩
  unfold u_lay at hlay
  cases fin with
  | false =>
    rw [if_neg (by rw [hfin]; decide)] at hlay
    exact W.putK hx hb (f := f) ⟨hown, hts _ hlw, ⟨_, _, _, hfound⟩, hst⟩ (by rw [q2]; exact u_store hfc hkC hkind hlay hfound hty hn hfit) q1 q3 hroom rfl rfl hd fun H1 e1 e2 e3 => kk H1 _ (done H1 e1) e2 e3
  | true =>
    rw [if_pos hfin] at hlay
    have hcf : m.cls = cf := by
      obtain ⟨_, _, c', _, _, _, -, -, hf', -, -, -, hown2, -⟩ := Cond.laysFinal_spec hlay
      have e1 : c' = cf := by have := hfound.symm.trans hf'; simp at this; exact this.1.symm
      obtain ⟨-, q', hq1, hq2⟩ := hi rfl
      cases Option.some.inj (hq1.symm.trans hc)
      rw [hq2] at hown2
      rw [← e1]; exact Option.some.inj (hown.symm.trans hown2)
    exact W.putFinK hx hb hown (hts _ hlw) hfound hst hcf (hin (hi rfl).1) (by rw [q2]; exact u_fits hfc hkC hkind (Or.inr hlay) hfound hty hn hfit) q1 q3 hroom rfl rfl hd fun H1 e1 e2 e3 => kk H1 _ (done H1 e1) e2 e3
theorem sw_putI {ix ci k a : Nat} {refs : List (Option Nat)} {z : Int} (hd : decode me.2.1 pc = .ok (.putfield ix, 3)) (hf : FP me.2.2.2.2 ix ci k false .int) (ha : a < n) (hsh : sh a = .inr (ci, refs)) (ht : (fty ci)[k]? = some 0)
    (K : SW G j me (pc + 3) lo st (sh, n, up2 c0 a k z) B post) : SW G j me pc lo (vi z :: vr a :: st) (sh, n, c0) B post := by
  intro p e R s m args below meth c b fa fv cy D H locs ls Q C hH hL hE
  refine put_core C hH hd hf (fun h => by cases h) ha hsh (List.getElem?_eq_some_iff.mp ht).1 rfl rfl fun H1 i e1 e2 e3 => ?_
  refine K p e R s m args below meth c b fa fv cy D H1 _ ls Q C (hH.store (e := ce b cy (sh a) (up2 c0 a k z a)) ha wl_up2 rfl ?_ e2 e3) hL hE
  have hs : (fvs b ci refs (c0 a)).set k (cv b fa (vi z)) = fvs b ci refs (up2 c0 a k z a) := fvs_set ht (by simp [fvv, up2, cv]) (by decide)
  rw [hsh]
  rw [hs] at e1
  exact e1
theorem sw_putZ {ix ci k a : Nat} {refs : List (Option Nat)} {z : Int} (hd : decode me.2.1 pc = .ok (.putfield ix, 3)) (hf : FP me.2.2.2.2 ix ci k false .boolean) (ha : a < n) (hsh : sh a = .inr (ci, refs)) (ht : (fty ci)[k]? = some 0) (hz : z = 0 ∨ z = 1)
    (K : SW G j me (pc + 3) lo st (sh, n, up2 c0 a k z) B post) : SW G j me pc lo (vi z :: vr a :: st) (sh, n, c0) B post := by
  intro p e R s m args below meth c b fa fv cy D H locs ls Q C hH hL hE
  refine put_core C hH hd hf (fun h => by cases h) ha hsh (List.getElem?_eq_some_iff.mp ht).1 (by rcases hz with rfl | rfl <;> rfl) (by rcases hz with rfl | rfl <;> rfl) fun H1 i e1 e2 e3 => ?_
  refine K p e R s m args below meth c b fa fv cy D H1 _ ls Q C (hH.store (e := ce b cy (sh a) (up2 c0 a k z a)) ha wl_up2 rfl ?_ e2 e3) hL hE
  have hs : (fvs b ci refs (c0 a)).set k (cv b fa (vi z)) = fvs b ci refs (up2 c0 a k z a) := fvs_set ht (by simp [fvv, up2, cv]) (by decide)
  rw [hsh]
  rw [hs] at e1
  exact e1
theorem sw_putL {ix ci k a : Nat} {refs : List (Option Nat)} {z : Int} (hd : decode me.2.1 pc = .ok (.putfield ix, 3)) (hf : FP me.2.2.2.2 ix ci k false .long) (ha : a < n) (hsh : sh a = .inr (ci, refs)) (ht : (fty ci)[k]? = some 1)
    (K : SW G j me (pc + 3) lo st (sh, n, up2 c0 a k z) B post) : SW G j me pc lo (vl z :: vr a :: st) (sh, n, c0) B post := by
  intro p e R s m args below meth c b fa fv cy D H locs ls Q C hH hL hE
  refine put_core C hH hd hf (fun h => by cases h) ha hsh (List.getElem?_eq_some_iff.mp ht).1 rfl rfl fun H1 i e1 e2 e3 => ?_
  refine K p e R s m args below meth c b fa fv cy D H1 _ ls Q C (hH.store (e := ce b cy (sh a) (up2 c0 a k z a)) ha wl_up2 rfl ?_ e2 e3) hL hE
  have hs : (fvs b ci refs (c0 a)).set k (cv b fa (vl z)) = fvs b ci refs (up2 c0 a k z a) := fvs_set ht (by simp [fvv, up2, cv]) (by decide)
  rw [hsh]
  rw [hs] at e1
  exact e1
theorem sw_putR {ix ci k a r : Nat} {fin : Bool} {ty : FieldType} {refs : List (Option Nat)} (hd : decode me.2.1 pc = .ok (.putfield ix, 3)) (hf : FP me.2.2.2.2 ix ci k fin ty) (hi : fin = true → me.1.name = "<init>" ∧ ∃ q : vw_C, vwCl[ci]? = some q ∧ (q.2.1 k).1 = me.2.2.2.2) (hty : (∃ x, ty = .object x) ∨ ∃ x, ty = .array x) (ha : a < n) (hsh : sh a = .inr (ci, refs)) (ht : (fty ci)[k]? = some 2) (hk : k < refs.length)
    (K : SW G j me (pc + 3) lo st (upS sh a (.inr (ci, refs.set k (some r))), n, c0) B post) : SW G j me pc lo (vr r :: vr a :: st) (sh, n, c0) B post := by
  intro p e R s m args below meth c b fa fv cy D H locs ls Q C hH hL hE
  refine put_core C hH hd hf hi ha hsh (List.getElem?_eq_some_iff.mp ht).1 (by rcases hty with ⟨x, rfl⟩ | ⟨x, rfl⟩ <;> rfl) (by rcases hty with ⟨x, rfl⟩ | ⟨x, rfl⟩ <;> rfl) fun H1 i e1 e2 e3 => ?_
  refine K p e R s m args below meth c b fa fv cy D H1 _ ls Q C (hH.store (e := ce b cy (.inr (ci, refs.set k (some r))) (c0 a)) ha wl_upS rfl ?_ e2 e3) hL hE
  have hs : (fvs b ci refs (c0 a)).set k (cv b fa (vr r)) = fvs b ci (refs.set k (some r)) (c0 a) := fvs_setR (r := some r) ht (by decide) hk
  rw [hs] at e1
  exact e1
def upZ (c : Nat → Nat → Int) (i : Nat) : Nat → Nat → Int := fun i' k' => if i' = i then 0 else c i' k'
theorem Hp.push {b : Nat} {cy : Nat → ClassId} {D : va_G} {s : State} {H H1 : Heap} {locs : List Loc} {q0 : Sh} (hH : Hp b cy D (sh, n, c0) s H locs) (he : va_at D vwCl (b + n, ce b cy q0 (fun _ => 0)) H1) (z : H1.size = b + n + 1) (oq : ∀ q : Nat, q < b + n → H1[q]? = H[q]?) : Hp b cy D (upS sh n q0, n + 1, upZ c0 n) s H1 locs := by
  have hz : upZ c0 n n = fun _ => 0 := by funext k; simp [upZ]
  have hw := wl_push (b := b) (cy := cy) (sh := sh) (n := n) (c := c0) (c' := upZ c0 n) (q0 := q0) (fun i hi => by funext k; simp [upZ, Nat.ne_of_lt hi])
  have hsz : H.size = b + n := hH.1
  refine ⟨z, ?_, Nat.le_trans hH.2.2.1 (by omega), fun q h1 h2 => ?_, hH.2.2.2.2⟩
  · rw [← hw, hz]
    refine va_P.app (hH.2.1.kept fun k q hq => oq q.1 ?_) (fun k x hx => ?_)
    · have := (hH.2.1 k q hq).lt
      omega
    · have hk : k < 1 := (List.getElem?_eq_some_iff.mp hx).1
      rw [show k = 0 by omega] at hx
      cases hx
      exact he
  · have := hH.2.2.1
    rw [oq q (by omega)]
    exact hH.2.2.2.1 q h1 h2
/-- a class that can be made -/
def NC (own : String) (ix ci : Nat) : Prop := ∃ q : vw_C, vwCl[ci]? = some q ∧ Cond.classLink own ix q.1 ∈ wsG ∧ Cond.instantiable q.1 q.2.2 ∈ wsG ∧ Cond.initialized q.1 ∈ wsG ∧ q.2.2 = (fty ci).length ∧ (∀ k, k < q.2.2 → ∃ ty, parseFieldDescriptor (q.2.1 k).2.2.1 = some ty ∧ defaultValue ty = fvv 0 [] (fun _ => 0) ((fty ci).getD k 0) k)
theorem fvv_0 {b k t N : Nat} : fvv b (List.replicate N none) (fun _ => 0) t k = fvv 0 [] (fun _ => 0) t k := by
  unfold fvv
  split
  · rfl
  · rfl
  · have h : (List.replicate N (none : Option Nat)).getD k none = none := by
      simp only [List.getD_eq_getElem?_getD, List.getElem?_replicate]
      split <;> rfl
    rw [h]; rfl
theorem sw_new {ix ci N : Nat} (hd : decode me.2.1 pc = .ok (.new ix, 3)) (hc : NC me.2.2.2.2 ix ci) (hN : (fty ci).length = N) (h1 : B.1 + 1 ≤ B.2.2.1) (h2 : B.2.1 + N ≤ B.2.2.2)
    (K : SW G j me (pc + 3) lo (vr n :: st) (upS sh n (.inr (ci, List.replicate N none)), n + 1, upZ c0 n) (B.1 + 1, B.2.1 + N, B.2.2.1, B.2.2.2) post) : SW G j me pc lo st (sh, n, c0) B post := by
  intro p e R s m args below meth c b fa fv cy D H locs ls Q C hH hL hE
  obtain ⟨⟨Cn, T, N'⟩, hq, hw1, hw2, hw3, hl, hdf⟩ := hc
  obtain ⟨hws, ty0, hty0, hnm⟩ := cf_ok ci _ hq
  have hNN : N' = N := hl.trans hN
  subst hNN
  have hKn := C.2.2.1.1 ci _ hq
  have hR := C.2.2.2.2.2.2.2
  refine W.newcK C.1.1 C.1.2.1 C.1.2.2.2.2.2.1 (C.2.1 _ hw1) (C.2.1 _ hw2) (C.2.1 _ hw3) rfl hd (by rw [hR.2.2.1]; exact h1) (by rw [hR.2.2.2]; exact h2) hKn.2.1 hH.1 fun H1 kC hkC e1 z1 o1 => ?_
  refine K p e R s m args below meth c b fa fv cy D H1 locs ls Q C (hH.push (q0 := .inr (ci, List.replicate N' none)) ⟨_, hq, ?_⟩ z1 o1) hL hE
  refine (u_born ty0 C.2.1 hws hKn hkC e1 hty0).to fun k hk => ?_
  have hk' : k < (fty ci).length := by rw [← hl]; exact hk
  obtain ⟨ty, g1, g2⟩ := hdf k hk
  have hty : ty0 k = ty := Option.some.inj ((hty0 k hk).symm.trans g1)
  rw [hty, g2]
  have hg : (fvs b ci (List.replicate N' none) (fun _ => 0))[k]? = some (fvv b (List.replicate N' none) (fun _ => 0) ((fty ci).getD k 0) k) := fvs_get (by simp [hk'])
  show _ = (fvs b ci (List.replicate N' none) (fun _ => 0)).getD k .null
  rw [List.getD_eq_getElem?_getD (l := fvs b ci (List.replicate N' none) (fun _ => 0)), hg, ← fvv_0 (b := b) (N := N')]
  rfl
theorem aty_of {args : Array Value} {s : State} {cy : Nat → ClassId} {D : va_G} (hK : va_K D vwCl (tyl cy) s) {t : Nat} {ty : FieldType} (ht : (tyl cy)[t]? = some (cy t, ty)) {cA : ClassId} (h : s.vm.findClass ("[" ++ ty.toString) = some cA) (hp : ∀ x, ty ≠ .object x) : cA = cy t := by
  have h1 := (hK.2 t _ ht).2
  cases ty with
  | object x => exact absurd rfl (hp x)
  | _ => exact Option.some.inj (h.symm.trans h1)
theorem sw_newa {at_ : ArrayType} {t : Nat} {z : Int} {len : Nat} (hd : decode me.2.1 pc = .ok (.newarray at_, 2)) (ht : ∀ cy : Nat → ClassId, (tyl cy)[t]? = some (cy t, newarray.typeOf at_)) (hp : ∀ x, newarray.typeOf at_ ≠ .object x) (hw : Cond.arrayClass (newarray.typeOf at_) ∈ wsG)
    (hdef : ∀ cA : ClassId, ∀ cy : Nat → ClassId, ∀ b : Nat, arrV (cy t) len (fun _ => defaultValue (newarray.typeOf at_)) = vp_cell (cy t) (len, if t = 3 then .inr (.inl (fun _ => Int64.ofInt 0)) else .inl (fun _ => Int32.ofInt 0)))
    (hz : z = (len : Int)) (hb : len * componentBytes (newarray.typeOf at_) ≤ 536870912) (hl : len < 2147483648) (h1 : B.1 + 1 ≤ B.2.2.1) (h2 : B.2.1 + len ≤ B.2.2.2)
    (K : SW G j me (pc + 2) lo (vr n :: st) (upS sh n (.inl (t, len)), n + 1, upZ c0 n) (B.1 + 1, B.2.1 + len, B.2.2.1, B.2.2.2) post) : SW G j me pc lo (vi z :: st) (sh, n, c0) B post := by
  intro p e R s m args below meth c b fa fv cy D H locs ls Q C hH hL hE
  subst hz
  have hR := C.2.2.2.2.2.2.2
  have hn : ¬ Int32.ofInt (len : Int) < 0 ∧ (Int32.ofInt (len : Int)).toNatClampNeg = len := by
    have e : Int32.ofInt (len : Int) = nI len := rfl
    rw [e]
    exact ⟨nI_pos hl, nI_clamp hl⟩
  refine va_newaK C.1.1 C.1.2.1 (C.2.1 _ hw) rfl hd rfl hn.1 hn.2 hb (by rw [hR.2.2.1]; exact h1) (by rw [hR.2.2.2]; exact h2) hH.1 fun H1 cA e1 z1 o1 _ hNm => ?_
  have hcA : cA = cy t := aty_of (args := args) C.2.2.1 (ht cy) hNm hp
  refine K p e R s m args below meth c b fa fv cy D H1 locs ls Q C (hH.push (q0 := .inl (t, len)) ?_ z1 o1) hL hE
  show H1[b + n]? = some (vp_cell _ _)
  rw [e1, hcA, hdef cA cy b]
theorem sw_newI {z : Int} {len : Nat} (hd : decode me.2.1 pc = .ok (.newarray .int, 2)) (hz : z = (len : Int)) (hl : len < 100000) (h1 : B.1 + 1 ≤ B.2.2.1) (h2 : B.2.1 + len ≤ B.2.2.2)
    (K : SW G j me (pc + 2) lo (vr n :: st) (upS sh n (.inl (0, len)), n + 1, upZ c0 n) (B.1 + 1, B.2.1 + len, B.2.2.1, B.2.2.2) post) : SW G j me pc lo (vi z :: st) (sh, n, c0) B post :=
  sw_newa (t := 0) hd (fun _ => rfl) (fun _ h => by cases h) (wsG_of 186 (by decide +kernel) rfl) (fun _ _ _ => rfl) hz (by show len * 4 ≤ _; omega) (by omega) h1 h2 K
theorem sw_newB {z : Int} {len : Nat} (hd : decode me.2.1 pc = .ok (.newarray .byte, 2)) (hz : z = (len : Int)) (hl : len < 100000) (h1 : B.1 + 1 ≤ B.2.2.1) (h2 : B.2.1 + len ≤ B.2.2.2)
    (K : SW G j me (pc + 2) lo (vr n :: st) (upS sh n (.inl (1, len)), n + 1, upZ c0 n) (B.1 + 1, B.2.1 + len, B.2.2.1, B.2.2.2) post) : SW G j me pc lo (vi z :: st) (sh, n, c0) B post :=
  sw_newa (t := 1) hd (fun _ => rfl) (fun _ h => by cases h) (wsG_of 158 (by decide +kernel) rfl) (fun _ _ _ => rfl) hz (by show len * 1 ≤ _; omega) (by omega) h1 h2 K
theorem sw_newZ {z : Int} {len : Nat} (hd : decode me.2.1 pc = .ok (.newarray .boolean, 2)) (hz : z = (len : Int)) (hl : len < 100000) (h1 : B.1 + 1 ≤ B.2.2.1) (h2 : B.2.1 + len ≤ B.2.2.2)
    (K : SW G j me (pc + 2) lo (vr n :: st) (upS sh n (.inl (2, len)), n + 1, upZ c0 n) (B.1 + 1, B.2.1 + len, B.2.2.1, B.2.2.2) post) : SW G j me pc lo (vi z :: st) (sh, n, c0) B post :=
  sw_newa (t := 2) hd (fun _ => rfl) (fun _ h => by cases h) (wsG_of 1270 (by decide +kernel) rfl) (fun _ _ _ => rfl) hz (by show len * 1 ≤ _; omega) (by omega) h1 h2 K
theorem sw_newL {z : Int} {len : Nat} (hd : decode me.2.1 pc = .ok (.newarray .long, 2)) (hz : z = (len : Int)) (hl : len < 100000) (h1 : B.1 + 1 ≤ B.2.2.1) (h2 : B.2.1 + len ≤ B.2.2.2)
    (K : SW G j me (pc + 2) lo (vr n :: st) (upS sh n (.inl (3, len)), n + 1, upZ c0 n) (B.1 + 1, B.2.1 + len, B.2.2.1, B.2.2.2) post) : SW G j me pc lo (vi z :: st) (sh, n, c0) B post :=
  sw_newa (t := 3) hd (fun _ => rfl) (fun _ h => by cases h) (wsG_of 215 (by decide +kernel) rfl) (fun _ _ _ => rfl) hz (by show len * 8 ≤ _; omega) (by omega) h1 h2 K
end RP
