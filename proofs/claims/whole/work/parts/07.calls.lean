/-! RULES: returns, methods, calls -/
def entL : List AV → List (Option AV)
  | [] => []
  | .inr (.inl z) :: r => some (vl z) :: none :: entL r
  | .inl z :: r => some (vi z) :: entL r
  | .inr (.inr z) :: r => some (.inr (.inr z)) :: entL r
theorem entL_in {b : Nat} {fa : Nat → Nat} : ∀ (av : List AV) (k i : Nat) (v : AV), (entL av)[i]? = some (some v) → (k + i, cv b fa v) ∈ lv_args k (av.map (cv b fa)) := by
  intro av
  induction av with
  | nil => intro k i v h; simp [entL] at h
  | cons x r ih =>
    intro k i v h
    rcases x with z | z | z
    · simp only [entL] at h
      cases i with
      | zero => simp only [List.getElem?_cons_zero, Option.some.injEq] at h; subst h; exact List.mem_cons_self
      | succ i =>
        have := ih (k + 1) i v (by simpa using h)
        refine List.mem_cons_of_mem _ ?_
        rw [show k + (i + 1) = k + 1 + i by omega]
        exact this
    · simp only [entL] at h
      cases i with
      | zero => simp only [List.getElem?_cons_zero, Option.some.injEq] at h; subst h; exact List.mem_cons_self
      | succ i =>
        cases i with
        | zero => simp at h
        | succ i =>
          have := ih (k + 2) i v (by simpa using h)
          refine List.mem_cons_of_mem _ ?_
          rw [show k + (i + 1 + 1) = k + 2 + i by omega]
          exact this
    · simp only [entL] at h
      cases i with
      | zero => simp only [List.getElem?_cons_zero, Option.some.injEq] at h; subst h; exact List.mem_cons_self
      | succ i =>
        have := ih (k + 1) i v (by simpa using h)
        have hc : (cv b fa (.inr (.inr z))).category = 1 := by rw [cv_cat]
        refine List.mem_cons_of_mem _ ?_
        rw [if_neg (by rw [hc]; decide), show k + (i + 1) = k + 1 + i by omega]
        exact this
theorem lg_sl_len {b : Nat} {fa : Nat → Nat} : ∀ av : List AV, (lg_sl (av.map (cv b fa))).length = (entL av).length := by
  intro av
  induction av with
  | nil => rfl
  | cons x r ih =>
    have e : ∀ v vs, lg_sl (v :: vs) = (if v.category = 2 then [Slot.val v, .second] else [.val v]) ++ lg_sl vs := fun v vs => by simp [lg_sl]
    rw [List.map_cons, e, List.length_append, ih, cv_cat]
    rcases x with z | z | z <;> simp [entL] <;> omega
theorem LR.entry {b : Nat} {fa : Nat → Nat} {nL : Nat} {av : List AV} {lo : List (Option AV)} (hlo : entL av ++ List.replicate (nL - (entL av).length) none = lo) (hl : (entL av).length ≤ nL) :
    LR b fa nL (lg_sl (av.map (cv b fa)) ++ List.replicate (nL - (lg_sl (av.map (cv b fa))).length) Slot.unset).toArray lo := by
  have h := lv_entry (av.map (cv b fa)) (n := nL) (by rw [lg_sl_len]; exact hl)
  refine ⟨h.1, h.2.1, fun i v hi => ?_⟩
  rw [← hlo] at hi
  by_cases hc : i < (entL av).length
  · rw [List.getElem?_append_left hc] at hi
    have := entL_in (b := b) (fa := fa) av 0 i v hi
    rw [Nat.zero_add] at this
    exact h.2.2 _ this
  · rw [List.getElem?_append_right (by omega), List.getElem?_replicate] at hi
    split at hi <;> cases hi
/-- a method's own words -/
def MW (y : Mth) : Prop := Cond.code y.1 y.2.1 y.2.2.1 y.2.2.2.1 ∈ wsG ∧ plainName y.1.cls = true ∧ y.2.2.1 ≤ 45 ∧ (y.1.cls ≠ "java/lang/invoke/MethodHandle" ∧ y.1.cls ≠ "java/lang/invoke/VarHandle") ∧ y.1.cls = y.2.2.2.2 ∧ Cond.initialized y.1.cls ∈ wsG
theorem goodG {y : Mth} (h : Cond.code y.1 y.2.1 y.2.2.1 y.2.2.2.1 ∈ wsG) : GoodIn wsG (wsM y) := by
  intro w hw
  have hm : w ∈ wsG := by
    rcases List.mem_cons.mp hw with rfl | hw
    · exact h
    · exact hw
  exact ⟨hm, good_of_word (List.mem_filter.mp hm).2⟩
section RC
variable {G : GG} {j : Nat} {me : Mth} {pc : Nat} {lo lo' : List (Option AV)} {st : List AV} {M : AM} {B : BB} {post : Option AV → AM → Prop}
theorem sw_ret {r : Option AV} (h : RetAt me pc r) (hst : st = r.toList) (h1 : B.1 ≤ B.2.2.1) (h2 : B.2.1 ≤ B.2.2.2) (K : post r M) : SW G j me pc lo st M B post := by
  intro p e R s m args below meth c b fa fv cy D H locs ls Q C hH hL hE
  subst hst
  have h3 := hE r M H locs pc ls h K hH
  refine W.widen h1 h2 ?_
  cases r <;> exact h3
theorem sw_iret {z : Int} (hd : decode me.2.1 pc = .ok (.ireturn, 1)) (hr : me.2.2.2.1 = some .int) (h1 : B.1 ≤ B.2.2.1) (h2 : B.2.1 ≤ B.2.2.2) (K : post (some (vi z)) M) : SW G j me pc lo [vi z] M B post := sw_ret (r := some (vi z)) ⟨hd, Or.inl hr⟩ rfl h1 h2 K
theorem sw_zret {z : Int} (hd : decode me.2.1 pc = .ok (.ireturn, 1)) (hr : me.2.2.2.1 = some .boolean) (hz : z = 0 ∨ z = 1) (h1 : B.1 ≤ B.2.2.1) (h2 : B.2.1 ≤ B.2.2.2) (K : post (some (vi z)) M) : SW G j me pc lo [vi z] M B post := sw_ret (r := some (vi z)) ⟨hd, Or.inr (Or.inl ⟨hr, hz⟩)⟩ rfl h1 h2 K
theorem sw_nret {z : Int} {ty : FieldType} (hd : decode me.2.1 pc = .ok (.ireturn, 1)) (hr : me.2.2.2.1 = some ty) (hz : narrow ty (.int (Int32.ofInt z)) = .int (Int32.ofInt z)) (h1 : B.1 ≤ B.2.2.1) (h2 : B.2.1 ≤ B.2.2.2) (K : post (some (vi z)) M) : SW G j me pc lo [vi z] M B post := sw_ret (r := some (vi z)) ⟨hd, Or.inr (Or.inr ⟨ty, hr, hz⟩)⟩ rfl h1 h2 K
theorem sw_lret {z : Int} (hd : decode me.2.1 pc = .ok (.lreturn, 1)) (hr : me.2.2.2.1 = some .long) (h1 : B.1 ≤ B.2.2.1) (h2 : B.2.1 ≤ B.2.2.2) (K : post (some (vl z)) M) : SW G j me pc lo [vl z] M B post := sw_ret (r := some (vl z)) ⟨hd, hr⟩ rfl h1 h2 K
theorem sw_vret (hd : decode me.2.1 pc = .ok (.return_, 1)) (hr : me.2.2.2.1 = none) (h1 : B.1 ≤ B.2.2.1) (h2 : B.2.1 ≤ B.2.2.2) (K : post none M) : SW G j me pc lo [] M B post := sw_ret (r := none) ⟨hd, hr⟩ rfl h1 h2 K
/-- a method by the walk of its body -/
theorem sm_of {y : Mth} {av : List AV} {mc ms : Nat} (hy : MW y) (hlo : entL av ++ List.replicate (y.2.2.1 - (entL av).length) none = lo) (hl : (entL av).length ≤ y.2.2.1) (K : SW G j y 0 lo [] M (0, 0, mc, ms) post) : SM G (j + 1) y av M mc ms post := by
  intro b fa fv cy D
  refine Met.ofW (cc := y.2.1) (maxL := y.2.2.1) (ret := y.2.2.2.1) hy.2.1 rfl ?_
  intro p e s m args below meth c s₁ Bd hml hv
  obtain ⟨rfl, hsz, hP, hK, hX, hF, hN⟩ := hv
  have hts := atoms_spec (ws := wsM y) Bd.pre
  have hown : s.vm.findClass y.1.cls = some m.cls := findClass_of_methodNamed Bd.named
  have hlocks := Bd.notSynchronized
  have hS : va_S (A_ b) s.heap s.heap [] := va_S.rf
  rw [lg_entry_eq]
  refine K p e _ s m _ below meth c b fa fv cy D s.heap [] _ _ ⟨⟨Bd.exec, Bd.bytes, hml, Bd.returns, hlocks, hy.2.2.2.2.1 ▸ hown, fun h => (name_of_methodNamed Bd.named Bd.method).1.trans h⟩, fun w hw => hts w (List.mem_cons_of_mem _ hw), hK, by rw [hsz]; exact Nat.le_add_right _ _, hX, hF, hN, ⟨Nat.le_refl _, Nat.le_refl _, rfl, rfl⟩⟩ ⟨hsz, hP, hS⟩ (LR.entry hlo hl) ?_
  intro r M' H' locs' pc' ls' hr hp hH'
  have hq : ∀ t : State, t.heap = H' → s.WarmedH t.vm → Qp b fa cy D post (av.map (cv b fa)).toArray s (.returned (r.map (cv b fa))) t := fun t ht _ => ⟨⟨r, M', rfl, hp, by rw [ht]; exact hH'.1, by rw [ht]; exact hH'.2.1⟩, hH'.2.2.F ht⟩
  have hf : ∀ q ∈ locs', A_ b q.base := hH'.2.2.2.2
  rcases r with _ | (z | z | z)
  · exact W.vret Bd.exec Bd.bytes (Bd.returns.trans hr.2) hq hf hr.1
  · rcases hr.2 with h | ⟨h, hz⟩ | ⟨ty, h, hz⟩
    · exact W.iret Bd.exec Bd.bytes (Bd.returns.trans h) hq hf hr.1
    · exact W.zret Bd.exec Bd.bytes (Bd.returns.trans h) (by rcases hz with rfl | rfl <;> rfl) hq hf hr.1
    · exact W.zret Bd.exec Bd.bytes (Bd.returns.trans h) hz hq hf hr.1
  · exact W.lret Bd.exec Bd.bytes (Bd.returns.trans hr.2) hq hf hr.1
  · exact hr.elim
theorem SM.mono {y : Mth} {av : List AV} {mc ms : Nat} {post' : Option AV → AM → Prop} (h : SM G j y av M mc ms post) (hp : ∀ r M, post r M → post' r M) : SM G j y av M mc ms post' := by
  intro b fa fv cy D
  refine MetFree.mono (h b fa fv cy D) (fun _ _ h => h) (fun _ _ _ _ _ h => h) ?_
  intro a st o t _ hq
  obtain ⟨⟨⟨r, M', h1, h2, h3⟩, h4⟩, h5⟩ := hq
  exact ⟨⟨⟨r, M', h1, hp r M' h2, h3⟩, h4⟩, h5⟩
theorem Wd_blind {b : Nat} {fa fv : Nat → Nat} {cy : Nat → ClassId} {D : va_G} {av : List Value} : FrameBlind (va_Pc av (Wd G b fa fv cy D M)) := by
  intro a U g mk h
  obtain ⟨h0, h1, h2, h3, h4, h5, h6⟩ := h
  exact ⟨h0, h1, h2, va_K.moved (u := U) (U := U.calling g mk a) (Vm.Alike.refl U.vm) h3, FX.moved (u := U) (U := U.calling g mk a) (Vm.Alike.refl U.vm) h4, FK.same (u := U) (U := U.calling g mk a) rfl h5, NW.same (u := U) (U := U.calling g mk a) rfl h6⟩
/-- the callee's start, out of the caller's place -/
theorem Wd_at {p : Program} {R : Room} {s : State} {m : MethodId} {args : Array Value} {meth : Method} {c : Code} {b : Nat} {fa fv : Nat → Nat} {cy : Nat → ClassId} {D : va_G} {H : Heap} {locs : List Loc} {mc ms : Nat} (C : Cx G j me mc ms p R s m args meth c b fa fv cy D) (hH : Hp b cy D M s H locs) (U : State) (hU : U.heap = H) (hW : s.WarmedH U.vm) : Wd G b fa fv cy D M U := by
  refine ⟨by rw [hU]; exact hH.1, by rw [hU]; exact hH.2.1, va_K.moved hW.alike C.2.2.1, ?_, C.2.2.2.2.2.1.warm hW, C.2.2.2.2.2.2.1.warm hW⟩
  rw [hU]
  exact FX.moved hW.alike (FX.kept C.2.2.2.1 (fun a h1 h2 => hH.2.2.2.1 a h1 h2) C.2.2.2.2.1)
/-- behind a call -/
theorem call_back {p : Program} {e : Env} {R : Room} {s : State} {m : MethodId} {args : Array Value} {below : List Frame} {meth : Method} {c : Code} {b : Nat} {fa fv : Nat → Nat} {cy : Nat → ClassId} {D : va_G} {H : Heap} {locs : List Loc} {ls : Array Slot} {Q : State → Prop} {mc ms : Nat} {st0 : List Value} {a : Array Value} {B' : BB} {post' : Option AV → AM → Prop}
    (hr : va_Run p G.1 e R s m args below meth c H locs B.1 B.2.1 mc ms (F0 m pc ls st0) (st.map (cv b fa)) (Qp b fa cy D post' a) (A_ b)) (C : Cx G j me B.2.2.1 B.2.2.2 p R s m args meth c b fa fv cy D) (hH : Hp b cy D M s H locs) (hL : LR b fa me.2.2.1 ls lo) (hE : Ex me B post p G.1 e R s m args below meth c b fa cy D Q) (hB : B' = (B.1 + mc, B.2.1 + ms, B.2.2.1, B.2.2.2))
    (K : ∀ (r : Option AV) (M' : AM), post' r M' → SW G j me (pc + 3) lo (r.toList ++ st) M' B' post) : W p G.1 e R s m args below meth c H locs B.1 B.2.1 Q (F0 m pc ls st0) := by
  intro T hT X
  obtain ⟨v, st₀, t, T', L, h0, X', hLo, e1, e2, ⟨⟨r, M', hv, hp, hsz, hP'⟩, hF⟩, stp⟩ := hr T hT X
  cases hv
  subst hB
  have hF' : st₀.heap.size ≤ t.heap.size ∧ ∀ q : Nat, q < st₀.heap.size → ¬ A_ b q → t.heap[q]? = st₀.heap[q]? := hF
  rw [h0] at hF'
  have hH' : Hp b cy D M' s T'.heap (locs ++ L) := by
    rw [e1]
    refine ⟨hsz, hP', Nat.le_trans hH.2.2.1 hF'.1, fun q h1 h2 => ?_, fun q hq => ?_⟩
    · rw [hF'.2 q (Nat.lt_of_lt_of_le h1 hH.2.2.1) h2]
      exact hH.2.2.2.1 q h1 h2
    · rcases List.mem_append.mp hq with h | h
      · exact hH.2.2.2.2 q h
      · exact hLo q h
  obtain ⟨t2, a1, b1⟩ := K r M' hp p e R s m args below meth c b fa fv cy D T'.heap (locs ++ L) ls Q C hH' hL hE T' rfl X'
  refine ⟨t2, stp t2 ?_, b1⟩
  rw [List.map_append] at a1
  have er : (r.toList.map (cv b fa)) = (r.map (cv b fa)).toList := by cases r <;> rfl
  rw [er] at a1
  exact a1
/-- links of calls -/
def LkS (own : String) (ix : Nat) (y : Mth) (np : Nat) : Prop := MW y ∧ Cond.methodLink own ix y.1 ∈ wsG ∧ Cond.static y.1 ∈ wsG ∧ (parseMethodDescriptor y.1.desc).map (fun d => d.parameters.length) = some np
def LkN (own : String) (ix : Nat) (y : Mth) (np : Nat) : Prop := MW y ∧ (own, ix, y.1) ∈ nests ∧ Cond.static y.1 ∈ wsG ∧ (parseMethodDescriptor y.1.desc).map (fun d => d.parameters.length) = some np
def LkV (own : String) (ix : Nat) (y : Mth) (np ci : Nat) : Prop := MW y ∧ Cond.methodLink own ix y.1 ∈ wsG ∧ Cond.instanceMethod y.1 ∈ wsG ∧ Cond.selects y.1.cls y.1 y.1 ∈ wsG ∧ (parseMethodDescriptor y.1.desc).map (fun d => d.parameters.length) = some np ∧ ∃ q : vw_C, vwCl[ci]? = some q ∧ q.1 = y.1.cls
def LkI (own : String) (ix : Nat) (y : Mth) (np : Nat) : Prop := MW y ∧ Cond.methodLink own ix y.1 ∈ wsG ∧ Cond.instanceMethod y.1 ∈ wsG ∧ y.1.name = "<init>" ∧ y.2.2.2.1 = none ∧ (parseMethodDescriptor y.1.desc).map (fun d => d.parameters.length) = some np
def rcat (st : List AV) : Nat := (st.map fun v => match v with | .inr (.inl _) => 2 | _ => 1).sum
theorem rcat_ok {b : Nat} {fa : Nat → Nat} (h : rcat st ≤ 8) : ((st.map (cv b fa)).map fun v => v.category).sum ≤ 8 := by
  have e : (st.map (cv b fa)).map (fun v => v.category) = st.map fun v => match v with | .inr (.inl _) => 2 | _ => 1 := by
    rw [List.map_map]
    apply List.map_congr_left
    intro v _
    exact cv_cat b fa v
  rw [e]
  exact h
theorem sw_callS {ix np : Nat} {y : Mth} {As : List AV} {st0 : List AV} {mc ms : Nat} {B' : BB} {post' : Option AV → AM → Prop} (hd : decode me.2.1 pc = .ok (.invokestatic ix, 3)) (hl : LkS me.2.2.2.2 ix y np) (hn : As.length = np) (hst : As.reverse ++ st = st0) (hc : rcat st ≤ 8) (hB : B' = (B.1 + mc, B.2.1 + ms, B.2.2.1, B.2.2.2)) (h1 : B'.1 ≤ B.2.2.1) (h2 : B'.2.1 ≤ B.2.2.2)
    (hM : SM G j y As M mc ms (fun r M' => SW G j me (pc + 3) lo (r.toList ++ st) M' B' post)) : SW G j me pc lo st0 M B post := by
  intro p e R s m args below meth c b fa fv cy D H locs ls Q C hH hL hE
  obtain ⟨hy, hw1, hw2, hw3⟩ := hl
  have hR := C.2.2.2.2.2.2.2
  subst hB; subst hst
  refine call_back (B := B) (st0 := ((As.reverse ++ st).map (cv b fa))) (va_runS (As := As.map (cv b fa)) (rest := st.map (cv b fa)) (n := np) (nL := me.2.2.1) (cc := me.2.1) (Ts := wsG) (own := me.2.2.2.2) (bytes := y.2.1) (maxL := y.2.2.1) (ret := y.2.2.2.1) ⟨C.1.1, C.1.2.1, C.1.2.2.1, C.1.2.2.2.2.2.1, C.2.1⟩ (hM b fa fv cy D) ⟨callB_of np C.2.1 (goodG hy.1) rfl rfl rfl (C.2.1 _ hy.2.2.2.2.2) (C.2.1 _ hw1) ⟨hy.2.2.2.1.1, hy.2.2.2.1.2, hw3⟩ ⟨hR.1, by have := hR.2.1; have := hy.2.2.1; simp only [rmj]; omega⟩, C.2.1 _ hw2⟩ ⟨Wd_blind, fun U hU hW => ⟨rfl, Wd_at C hH U hU hW⟩⟩ rfl (by simpa using hn) hL.1 (by simp) (lv_room (rcat_ok hc)) hd ⟨by rw [hR.2.2.1]; exact h1, by rw [hR.2.2.2]; exact h2⟩) C hH hL hE rfl (fun r M' h => h)
theorem sw_callN {ix np : Nat} {y : Mth} {As : List AV} {st0 : List AV} {mc ms : Nat} {B' : BB} (hd : decode me.2.1 pc = .ok (.invokestatic ix, 3)) (hl : LkN me.2.2.2.2 ix y np) (hn : As.length = np) (hst : As.reverse ++ st = st0) (hc : rcat st ≤ 8) (hB : B' = (B.1 + mc, B.2.1 + ms, B.2.2.1, B.2.2.2)) (h1 : B'.1 ≤ B.2.2.1) (h2 : B'.2.1 ≤ B.2.2.2)
    (hM : SM G j y As M mc ms (fun r M' => SW G j me (pc + 3) lo (r.toList ++ st) M' B' post)) : SW G j me pc lo st0 M B post := by
  intro p e R s m args below meth c b fa fv cy D H locs ls Q C hH hL hE
  obtain ⟨hy, hw1, hw2, hw3⟩ := hl
  have hR := C.2.2.2.2.2.2.2
  subst hB; subst hst
  refine call_back (B := B) (st0 := ((As.reverse ++ st).map (cv b fa))) (va_runSN (As := As.map (cv b fa)) (rest := st.map (cv b fa)) (n := np) (nL := me.2.2.1) (cc := me.2.1) (Ts := wsG) (own := me.2.2.2.2) (host := RX8) (bytes := y.2.1) (maxL := y.2.2.1) (ret := y.2.2.2.1) ⟨C.1.1, C.1.2.1, C.1.2.2.1, C.1.2.2.2.2.2.1, C.2.1⟩ (hM b fa fv cy D) ⟨va_cnB np C.2.1 (goodG hy.1) rfl rfl rfl (C.2.2.2.2.2.2.1 _ hw1) (C.2.1 _ hy.2.2.2.2.2) ⟨hy.2.2.2.1.1, hy.2.2.2.1.2, hw3⟩ ⟨hR.1, by have := hR.2.1; have := hy.2.2.1; simp only [rmj]; omega⟩, C.2.1 _ hw2, trivial⟩ ⟨Wd_blind, fun U hU hW => ⟨rfl, Wd_at C hH U hU hW⟩⟩ rfl (by simpa using hn) hL.1 (by simp) (lv_room (rcat_ok hc)) hd ⟨by rw [hR.2.2.1]; exact h1, by rw [hR.2.2.2]; exact h2⟩) C hH hL hE rfl (fun r M' h => h)
theorem sw_callV {ix np ci a : Nat} {y : Mth} {As : List AV} {st0 : List AV} {mc ms : Nat} {B' : BB} {refs : List (Option Nat)} (hd : decode me.2.1 pc = .ok (.invokevirtual ix, 3)) (hl : LkV me.2.2.2.2 ix y np ci) (ha : a < M.2.1) (hsh : M.1 a = .inr (ci, refs)) (hn : As.length = np) (hst : As.reverse ++ vr a :: st = st0) (hc : rcat st ≤ 8) (hB : B' = (B.1 + mc, B.2.1 + ms, B.2.2.1, B.2.2.2)) (h1 : B'.1 ≤ B.2.2.1) (h2 : B'.2.1 ≤ B.2.2.2)
    (hM : SM G j y (vr a :: As) M mc ms (fun r M' => SW G j me (pc + 3) lo (r.toList ++ st) M' B' post)) : SW G j me pc lo st0 M B post := by
  intro p e R s m args below meth c b fa fv cy D H locs ls Q C hH hL hE
  obtain ⟨hy, hw1, hw2, hw3, hw4, q, hq, hqc⟩ := hl
  have hR := C.2.2.2.2.2.2.2
  subst hB; subst hst
  refine call_back (B := B) (st0 := ((As.reverse ++ vr a :: st).map (cv b fa))) (va_runV (b := b + a) (As := As.map (cv b fa)) (rest := st.map (cv b fa)) (n := np) (nL := me.2.2.1) (cc := me.2.1) (Ts := wsG) (own := me.2.2.2.2) (C := y.1.cls) (bytes := y.2.1) (maxL := y.2.2.1) (ret := y.2.2.2.1) ⟨C.1.1, C.1.2.1, C.1.2.2.1, C.1.2.2.2.2.2.1, C.2.1⟩ (hM b fa fv cy D) ⟨callB_of np C.2.1 (goodG hy.1) rfl rfl rfl (C.2.1 _ hy.2.2.2.2.2) (C.2.1 _ hw1) ⟨hy.2.2.2.1.1, hy.2.2.2.1.2, hw4⟩ ⟨hR.1, by have := hR.2.1; have := hy.2.2.1; simp only [rmj]; omega⟩, C.2.1 _ hw2, C.2.1 _ hw3⟩ ⟨Wd_blind, hqc ▸ va_recv C.2.2.1 hH.2.1 hq (ce_obj ha hsh), fun U hU hW => ⟨rfl, Wd_at C hH U hU hW⟩⟩ rfl (by simpa using hn) hL.1 (by simp [cv]) (lv_room (rcat_ok hc)) hd ⟨by rw [hR.2.2.1]; exact h1, by rw [hR.2.2.2]; exact h2⟩) C hH hL hE rfl (fun r M' h => h)
theorem sw_callI {ix np a : Nat} {y : Mth} {As : List AV} {st0 : List AV} {mc ms : Nat} {B' : BB} (hd : decode me.2.1 pc = .ok (.invokespecial ix, 3)) (hl : LkI me.2.2.2.2 ix y np) (hn : As.length = np) (hst : As.reverse ++ vr a :: st = st0) (hc : rcat st ≤ 8) (hB : B' = (B.1 + mc, B.2.1 + ms, B.2.2.1, B.2.2.2)) (h1 : B'.1 ≤ B.2.2.1) (h2 : B'.2.1 ≤ B.2.2.2)
    (hM : SM G j y (vr a :: As) M mc ms (fun r M' => SW G j me (pc + 3) lo (r.toList ++ st) M' B' post)) : SW G j me pc lo st0 M B post := by
  intro p e R s m args below meth c b fa fv cy D H locs ls Q C hH hL hE
  obtain ⟨hy, hw1, hw2, hw3, hw5, hw4⟩ := hl
  have hR := C.2.2.2.2.2.2.2
  subst hB; subst hst
  have hws : wsM y = Cond.code y.1 y.2.1 y.2.2.1 none :: wsG := by rw [wsM, hw5]
  refine call_back (B := B) (st0 := ((As.reverse ++ vr a :: st).map (cv b fa))) (va_runI (b := b + a) (As := As.map (cv b fa)) (rest := st.map (cv b fa)) (n := np) (nL := me.2.2.1) (cc := me.2.1) (Ts := wsG) (own := me.2.2.2.2) (bytes := y.2.1) (maxL := y.2.2.1) ⟨C.1.1, C.1.2.1, C.1.2.2.1, C.1.2.2.2.2.2.1, C.2.1⟩ (hM b fa fv cy D) ⟨callB_of np C.2.1 (goodG hy.1) hws rfl rfl (C.2.1 _ hy.2.2.2.2.2) (C.2.1 _ hw1) ⟨hy.2.2.2.1.1, hy.2.2.2.1.2, hw4⟩ ⟨hR.1, by have := hR.2.1; have := hy.2.2.1; simp only [rmj]; omega⟩, hw3, C.2.1 _ hw2⟩ ⟨Wd_blind, fun U hU hW => ⟨rfl, Wd_at C hH U hU hW⟩⟩ rfl (by simpa using hn) hL.1 (by simp [cv]) (lv_room (rcat_ok hc)) hd ⟨by rw [hR.2.2.1]; exact h1, by rw [hR.2.2.2]; exact h2⟩) C hH hL hE rfl (fun r M' h => h)
theorem sw_objInit {ix a : Nat} (hd : decode me.2.1 pc = .ok (.invokespecial ix, 3)) (hw : Cond.methodLink me.2.2.2.2 ix Lib.objectInit ∈ wsG) (hw2 : Cond.instanceMethod Lib.objectInit ∈ wsG) (hw3 : Cond.code Lib.objectInit ⟨#[0xb1]⟩ 1 none ∈ wsG) (hc : rcat st ≤ 8)
    (K : SW G j me (pc + 3) lo st M B post) : SW G j me pc lo (vr a :: st) M B post := by
  intro p e R s m args below meth c b fa fv cy D H locs ls Q C hH hL hE
  have hR := C.2.2.2.2.2.2.2
  have h8 := lv_room (m := m) (pc := pc) (ls := ls) (rest := ((vr a :: st).map (cv b fa))) (rcat_ok (b := b) (fa := fa) hc)
  refine W.objInit C.1.1 C.1.2.1 C.1.2.2.2.2.2.1 (C.2.1 _ hw) (C.2.1 _ hw2) (C.2.1 _ hw3) rfl (hL.1.trans C.1.2.2.1.symm) rfl hd (by have := hR.1; omega) (by have := hR.2.1; omega) (K p e R s m args below meth c b fa fv cy D H locs ls Q C hH hL hE)
end RC
