-- (from the skeleton) 
/-! THE CLAIM OUT OF ONE WALK OF THE LAW'S BODY. Your part is whole_start (and what it stands on); all else here is the same for every law, but numbers. -/
def R_law : String := "ReflectionWordsLaw"
def lw_P (b : Addr) (xs : List Int32) (args : Array Value) (s : State) : Prop := args = #[.ref b] ∧ s.IntsAt b xs ∧ xs.length ≤ 3072 ∧ (Jvm.Cond.and given_1 narrow_1).before args s = true
def lw_Q (_ : Array Value) (s : State) (o : Outcome) (t : State) : Prop := o = .returned (some (.int 1)) ∧ Framed s o t [] 600000 7302250
def lw_Z (below : List Frame) (a : Array Value) (s : State) : State → Prop := fun t => ∃ o, t.status = .running ∧ Ended t below o ∧ lw_Q a s o t
/-- the law's own end, with 1 on the stack, nothing written that was there before, its room as the claim has it -/
theorem lw_ret {p : Program} {l : Launch} {e : Env} {s : State} {m : MethodId} {below : List Frame} {meth : Method} {c : Code} {b : Nat} (hx : p.tables.exec = Jvm.exec) (hb : c.code = code) (hr : meth.sig.returnType = ret) (hlocks : meth.locks = false) {pc : Nat} {H : Heap} {ls : Array Slot} (hdg : decode code pc = .ok (.ireturn, 1)) : W p l e room_1 s m #[Value.ref b] below meth c H [] 600000 7302250 (lw_Z below #[Value.ref b] s) (F0 m pc ls [.int 1]) := by
  intro T hT X
  obtain ⟨fs, hret, hrun, hended, hW, hframe⟩ := X.leave (v := some (.int 1)) (hlocks := hlocks) (fun h => by rw [hr] at h; cases h)
  have hmeth' : T.vm.method? m = some meth := X.method'
  refine ⟨T.setFrames fs, ?_, .returned (some (.int 1)), hrun, hended, rfl, ⟨_, rfl⟩, hW, hframe⟩
  jvm_step X.here [X.here.top, hx, hb, hdg, hmeth', hr, ret, narrow_b1]
  (try refine ⟨rfl, ?_⟩); (try refine ⟨rfl, ?_⟩)
  first | (intro acts; rw [hret _ acts rfl rfl rfl]) | rw [hret _ _ rfl rfl rfl]
  exact Steps.refl _
/-- what holds at the law's entry: the machine, the code, the tables' words (any of lw_tbl by 'hts w (by decide +kernel)'), the script of L ints xs at the cell b, what the Statement gives of the start (any of its parts by flat_of_before) -/
def lw_At (p : Program) (s : State) (m : MethodId) (meth : Method) (c : Code) (b L : Nat) (xs : Nat → Int32) : Prop :=
  p.tables.exec = Jvm.exec ∧ c.code = code ∧ meth.sig.returnType = ret ∧ c.maxLocals = 4 ∧ s.vm.findClass R_law = some m.cls ∧ (∀ w ∈ lw_tbl, w.before #[Value.ref b] s = true) ∧ va_X b L xs s s.heap ∧ b < s.heap.size ∧ meth.locks = false ∧ (Jvm.Cond.and given_1 narrow_1).before #[Value.ref b] s = true
theorem cmn_at (j : Nat) (h : j < 11) : Int32.ofInt (cmn j) = ([0, 1, 10826, 13401, 21173, 26068, 23056, 49020, 38637, 727, 18315] : List Int32).getD j 0 := by
  obtain rfl | rfl | rfl | rfl | rfl | rfl | rfl | rfl | rfl | rfl | rfl : j = 0 ∨ j = 1 ∨ j = 2 ∨ j = 3 ∨ j = 4 ∨ j = 5 ∨ j = 6 ∨ j = 7 ∨ j = 8 ∨ j = 9 ∨ j = 10 := by omega
  all_goals rfl
set_option maxHeartbeats 8000000 in
set_option maxRecDepth 20000 in
/-- what lies outside the world at the law's start -/
theorem fx_start {s : State} {b L : Nat} {xs : Nat → Int32} (l : Launch) (hts : ∀ w ∈ lw_tbl, w.before #[Value.ref b] s = true) (hX : va_X b L xs s s.heap) (hbl : b < s.heap.size) (hgv : (Jvm.Cond.and given_1 narrow_1).before #[Value.ref b] s = true) : ∃ fa : Nat → Nat, fa 0 = b ∧ FX (l, L, xs) s.heap.size fa (fun _ => 0) s s.heap ∧ FK fa s := by
  have hA : ∀ a : Nat, a < s.heap.size → ¬ A_ s.heap.size a := fun a h => Nat.not_le.mpr h
  have hs := flat_of_before _ hgv
  obtain ⟨t1, e1, hT⟩ := va_Tof (args := #[Value.ref b]) (s := s) (tm := (Jvm.Term.static "ReflectionWordsModel" "COMMON" "[I")) (ty := .int) (N := 11) (f := fun j => .int (Int32.ofInt (cmn j))) (A := A_ s.heap.size) (by decide) (hs _ (by decide +kernel)) (va_eqt (z := 11) (hs _ (by decide +kernel))) (fun j hj => by
    rw [cmn_at j hj]
    obtain rfl | rfl | rfl | rfl | rfl | rfl | rfl | rfl | rfl | rfl | rfl : j = 0 ∨ j = 1 ∨ j = 2 ∨ j = 3 ∨ j = 4 ∨ j = 5 ∨ j = 6 ∨ j = 7 ∨ j = 8 ∨ j = 9 ∨ j = 10 := by omega
    all_goals exact va_eqt (hs _ (by decide +kernel))) hA
  have hZ := va_Zref (A := A_ s.heap.size) (hts (.laysStatic "ReflectionWordsModel" "COMMON" "[I") (List.mem_of_getElem? (i := 1346) (by decide +kernel))) (hts (.initialized "ReflectionWordsModel") (List.mem_of_getElem? (i := 115) (by decide +kernel))) e1 hA
  have hC := va_Zof (A := A_ s.heap.size) (hts (.laysStatic "java/lang/String" "COMPACT_STRINGS" "Z") (List.mem_of_getElem? (i := 444) (by decide +kernel))) (hts (.initialized "java/lang/String") (List.mem_of_getElem? (i := 116) (by decide +kernel))) (va_eqi (z := 1) (hs _ (by decide +kernel))) hA
  have hQ := va_Zqof (A := A_ s.heap.size) (hts (.laysStatic "jdk/internal/util/Preconditions" "SIOOBE_FORMATTER" "Ljava/util/function/BiFunction;") (List.mem_of_getElem? (i := 460) (by decide +kernel))) (hts (.initialized "jdk/internal/util/Preconditions") (List.mem_of_getElem? (i := 118) (by decide +kernel))) (hs _ (by decide +kernel)) hA
  obtain ⟨adK, adV, hS, hE⟩ := vk_Sof (args := #[Value.ref b]) (s := s) (N := 2) (tm := fun i => if i = 0 then (Jvm.Term.string "ReflectionWords$Telling" (68 : Nat)) else (Jvm.Term.string "ReflectionWords$Telling" (78 : Nat))) (len := [5, 4]) (byt := [[103, 114, 111, 117, 112], [98, 111, 110, 100]]) (A := A_ s.heap.size)
    (fun i hi => by obtain rfl | rfl : i = 0 ∨ i = 1 := by omega
                    all_goals decide)
    (fun i hi => by obtain rfl | rfl : i = 0 ∨ i = 1 := by omega
                    all_goals exact hs _ (by decide +kernel))
    (fun i hi => by obtain rfl | rfl : i = 0 ∨ i = 1 := by omega
                    all_goals exact hs _ (by decide +kernel))
    (fun i hi => by obtain rfl | rfl : i = 0 ∨ i = 1 := by omega
                    all_goals exact hs _ (by decide +kernel))
    (fun i hi => by obtain rfl | rfl : i = 0 ∨ i = 1 := by omega
                    all_goals exact hs _ (by decide +kernel))
    (fun i hi j hj => by
      obtain rfl | rfl : i = 0 ∨ i = 1 := by omega
      · have hj' : j < 5 := hj
        obtain rfl | rfl | rfl | rfl | rfl : j = 0 ∨ j = 1 ∨ j = 2 ∨ j = 3 ∨ j = 4 := by omega
        all_goals exact hs _ (by decide +kernel)
      · have hj' : j < 4 := hj
        obtain rfl | rfl | rfl | rfl : j = 0 ∨ j = 1 ∨ j = 2 ∨ j = 3 := by omega
        all_goals exact hs _ (by decide +kernel))
    (fun i j hi hj hij => by
      obtain ⟨rfl, rfl⟩ | ⟨rfl, rfl⟩ : (i = 0 ∧ j = 1) ∨ (i = 1 ∧ j = 0) := by omega
      · exact Or.inl (hs _ (by decide +kernel))
      · exact Or.inr (hs _ (by decide +kernel))) hA
  have g0 := hE 0 (by decide)
  have g1 := hE 1 (by decide)
  have hFK : ∀ fa : Nat → Nat, fa 2 = adK 0 → fa 3 = adK 1 → FK fa s := by
    intro fa f2 f3
    refine ⟨?_, ?_, ?_, ?_⟩
    · rw [f2]; exact vk_R.of (hts (.stringRef "ReflectionWords$Telling" 68 "group") (List.mem_of_getElem? (i := 430) (by decide +kernel))) g0
    · rw [f3]; exact vk_R.of (hts (.stringRef "ReflectionWords$Telling" 78 "bond") (List.mem_of_getElem? (i := 504) (by decide +kernel))) g1
    · rw [f2]; exact vk_R.of (hts (.stringRef "ReflectionWordsModel" 162 "group") (List.mem_of_getElem? (i := 1308) (by decide +kernel))) (va_eqR (t := (Jvm.Term.string "ReflectionWords$Telling" (68 : Nat))) (u := (Jvm.Term.string "ReflectionWordsModel" (162 : Nat))) (hs _ (by decide +kernel)) g0)
    · rw [f3]; exact vk_R.of (hts (.stringRef "ReflectionWordsModel" 171 "bond") (List.mem_of_getElem? (i := 1331) (by decide +kernel))) (va_eqR (t := (Jvm.Term.string "ReflectionWords$Telling" (78 : Nat))) (u := (Jvm.Term.string "ReflectionWordsModel" (171 : Nat))) (hs _ (by decide +kernel)) g1)
  have hFX : ∀ t6 : Nat, (va_Z "jdk/internal/util/Preconditions" "SIOOBE_FORMATTER" "Ljava/util/function/BiFunction;" .null (A_ s.heap.size) s s.heap ∨ va_Z "jdk/internal/util/Preconditions" "SIOOBE_FORMATTER" "Ljava/util/function/BiFunction;" (.ref t6) (A_ s.heap.size) s s.heap) → ∃ fa : Nat → Nat, fa 0 = b ∧ FX (l, L, xs) s.heap.size fa (fun _ => 0) s s.heap ∧ FK fa s := by
    intro t6 h6
    refine ⟨fun k => if k = 0 then b else if k = 1 then t1 else if k = 2 then adK 0 else if k = 3 then adK 1 else if k = 4 then adV 0 else if k = 5 then adV 1 else t6, rfl, ⟨⟨hX, hbl⟩, ⟨hZ, hT⟩, ⟨fun i hi => ?_, fun i j hi hj e => ?_⟩, hC, h6⟩, hFK _ rfl rfl⟩
    · obtain rfl | rfl : i = 0 ∨ i = 1 := by omega
      · exact hS.1 0 (by decide)
      · exact hS.1 1 (by decide)
    · obtain rfl | rfl : i = 0 ∨ i = 1 := by omega
      · obtain rfl | rfl : j = 0 ∨ j = 1 := by omega
        · rfl
        · exact hS.2 0 1 (by decide) (by decide) e
      · obtain rfl | rfl : j = 0 ∨ j = 1 := by omega
        · exact hS.2 1 0 (by decide) (by decide) e
        · rfl
  rcases hQ with h | ⟨t6, h⟩
  · exact hFX 0 (Or.inl h)
  · exact hFX t6 (Or.inr h)

set_option maxHeartbeats 8000000 in
set_option maxRecDepth 20000 in
theorem whole_go (hcl : HCls) {p : Program} {e : Env} {s : State} {m : MethodId} {below : List Frame} {meth : Method} {c : Code} (l : Launch) {b L : Nat} {xs : Nat → Int32} (hL : L ≤ 3072) (C0 : lw_At p s m meth c b L xs) : W p l e room_1 s m #[Value.ref b] below meth c s.heap [] 0 0 (lw_Z below #[Value.ref b] s) (entryFrame m ([Value.ref b] : List Value).toArray 4) := by
  obtain ⟨hx, hb, hr, hml, hown, hts, hX, hbl, hlocks, hgv⟩ := id C0
  obtain ⟨fa, fa0, hFX, hFK⟩ := fx_start l hts hX hbl hgv
  have h0 : ∀ ci : Nat, ∃ p : ClassId × (Nat → Nat), ∀ q : vw_C, vwCl[ci]? = some q → u_Kn s q.1 q.2.1 q.2.2 p.1 p.2 := by
    intro ci
    match ci with
    | 0 =>
      obtain ⟨cC, iS, h⟩ := u_known (C := RX0) (T := TX0) (N := 2) (n := 2) hts (fun w hw => (List.mem_filter.mp ((cf_ok 0 _ rfl).1 w hw)).1) (hts (.instantiable RX0 2) (List.mem_of_getElem? (i := 202) (by decide +kernel)))
      exact ⟨(cC, iS), fun q hq => by cases hq; exact h⟩
    | 1 =>
      obtain ⟨cC, iS, h⟩ := u_known (C := RX1) (T := TX1) (N := 16) (n := 16) hts (fun w hw => (List.mem_filter.mp ((cf_ok 1 _ rfl).1 w hw)).1) (hts (.instantiable RX1 16) (List.mem_of_getElem? (i := 280) (by decide +kernel)))
      exact ⟨(cC, iS), fun q hq => by cases hq; exact h⟩
    | 2 =>
      obtain ⟨cC, iS, h⟩ := u_known (C := RX2) (T := TX2) (N := 1) (n := 1) hts (fun w hw => (List.mem_filter.mp ((cf_ok 2 _ rfl).1 w hw)).1) (hts (.instantiable RX2 1) (List.mem_of_getElem? (i := 217) (by decide +kernel)))
      exact ⟨(cC, iS), fun q hq => by cases hq; exact h⟩
    | 3 =>
      obtain ⟨cC, iS, h⟩ := u_known (C := RX3) (T := TX3) (N := 6) (n := 6) hts (fun w hw => (List.mem_filter.mp ((cf_ok 3 _ rfl).1 w hw)).1) (hts (.instantiable RX3 6) (List.mem_of_getElem? (i := 249) (by decide +kernel)))
      exact ⟨(cC, iS), fun q hq => by cases hq; exact h⟩
    | 4 =>
      obtain ⟨cC, iS, h⟩ := u_known (C := RX4) (T := TX4) (N := 2) (n := 2) hts (fun w hw => (List.mem_filter.mp ((cf_ok 4 _ rfl).1 w hw)).1) (hts (.instantiable RX4 2) (List.mem_of_getElem? (i := 188) (by decide +kernel)))
      exact ⟨(cC, iS), fun q hq => by cases hq; exact h⟩
    | 5 =>
      obtain ⟨cC, iS, h⟩ := u_known (C := RX5) (T := TX5) (N := 5) (n := 5) hts (fun w hw => (List.mem_filter.mp ((cf_ok 5 _ rfl).1 w hw)).1) (hts (.instantiable RX5 5) (List.mem_of_getElem? (i := 227) (by decide +kernel)))
      exact ⟨(cC, iS), fun q hq => by cases hq; exact h⟩
    | 6 =>
      obtain ⟨cC, iS, h⟩ := u_known (C := RX6) (T := TX6) (N := 5) (n := 5) hts (fun w hw => (List.mem_filter.mp ((cf_ok 6 _ rfl).1 w hw)).1) (hts (.instantiable RX6 5) (List.mem_of_getElem? (i := 132) (by decide +kernel)))
      exact ⟨(cC, iS), fun q hq => by cases hq; exact h⟩
    | 7 =>
      obtain ⟨cC, iS, h⟩ := u_known (C := RX7) (T := TX7) (N := 5) (n := 5) hts (fun w hw => (List.mem_filter.mp ((cf_ok 7 _ rfl).1 w hw)).1) (hts (.instantiable RX7 5) (List.mem_of_getElem? (i := 160) (by decide +kernel)))
      exact ⟨(cC, iS), fun q hq => by cases hq; exact h⟩
    | 8 =>
      obtain ⟨cC, iS, h⟩ := u_known (C := RX8) (T := TX8) (N := 11) (n := 11) hts (fun w hw => (List.mem_filter.mp ((cf_ok 8 _ rfl).1 w hw)).1) (hts (.instantiable RX8 11) (List.mem_of_getElem? (i := 124) (by decide +kernel)))
      exact ⟨(cC, iS), fun q hq => by cases hq; exact h⟩
    | 9 =>
      obtain ⟨cC, iS, h⟩ := u_known (C := RX9) (T := TX9) (N := 45) (n := 45) hts (fun w hw => (List.mem_filter.mp ((cf_ok 9 _ rfl).1 w hw)).1) (hts (.instantiable RX9 45) (List.mem_of_getElem? (i := 1128) (by decide +kernel)))
      exact ⟨(cC, iS), fun q hq => by cases hq; exact h⟩
    | k + 10 => exact ⟨(0, fun _ => 0), fun q hq => by simp [vwCl] at hq⟩
  obtain ⟨f, hf⟩ := Classical.axiomOfChoice h0
  obtain ⟨cI, kI, pI, i1, i2, i3⟩ := Cond.arrayClass_spec (hts (.arrayClass .int) (List.mem_of_getElem? (i := 186) (by decide +kernel)))
  obtain ⟨cB, kB, pB, j1, j2, j3⟩ := Cond.arrayClass_spec (hts (.arrayClass .byte) (List.mem_of_getElem? (i := 158) (by decide +kernel)))
  obtain ⟨cZ, kZ, pZ, z1, z2, z3⟩ := Cond.arrayClass_spec (hts (.arrayClass .boolean) (List.mem_of_getElem? (i := 1270) (by decide +kernel)))
  obtain ⟨cL, kL, pL, l1, l2, l3⟩ := Cond.arrayClass_spec (hts (.arrayClass .long) (List.mem_of_getElem? (i := 215) (by decide +kernel)))
  have hK : va_K (fun k => (f k).1, fun k => (f k).2) vwCl (tyl (fun k => if k = 0 then cI else if k = 1 then cB else if k = 2 then cZ else cL)) s := by
    refine ⟨fun k q hq => hf k q hq, fun k q hq => ?_⟩
    match k, hq with
    | 0, hq => cases hq; exact ⟨fun n z => ⟨fun k h => (by cases h), kI, i2, pI, i3⟩, i1⟩
    | 1, hq => cases hq; exact ⟨fun n z => ⟨fun k h => (by cases h), kB, j2, pB, j3⟩, j1⟩
    | 2, hq => cases hq; exact ⟨fun n z => ⟨fun k h => (by cases h), kZ, z2, pZ, z3⟩, z1⟩
    | 3, hq => cases hq; exact ⟨fun n z => ⟨fun k h => (by cases h), kL, l2, pL, l3⟩, l1⟩
    | k + 4, hq => simp [tyl] at hq
  have hNW : NW s := by
    intro w hw
    simp only [nests, List.mem_cons, List.not_mem_nil, or_false] at hw
    rcases hw with rfl | rfl | rfl | rfl | rfl
    · exact va_Nw.of rfl (hts (.methodLinkNest RX1 113 yX8_hasBit RX8) (List.mem_of_getElem? (i := 561) (by decide +kernel)))
    · exact va_Nw.of rfl (hts (.methodLinkNest RX2 35 yX8_hasBit RX8) (List.mem_of_getElem? (i := 749) (by decide +kernel)))
    · exact va_Nw.of rfl (hts (.methodLinkNest RX4 62 yX8_hasBit RX8) (List.mem_of_getElem? (i := 778) (by decide +kernel)))
    · exact va_Nw.of rfl (hts (.methodLinkNest RX0 39 yX8_hasBit RX8) (List.mem_of_getElem? (i := 883) (by decide +kernel)))
    · exact va_Nw.of rfl (hts (.methodLinkNest RX5 63 yX8_letterOfRow RX8) (List.mem_of_getElem? (i := 987) (by decide +kernel)))
  have K : SW (l, L, xs) 40 mL_law 0 [some (vf 0), none, none, none] [] ((fun _ => .inl (0, 0)), 0, fun _ _ => 0) (0, 0, 600000, 7302250) (fun r _ => r = some (vi 1)) :=
    law_0 (j := 28) (fun g c0 h => law_lp (G := (l, L, xs)) (j := 0) hL hcl L 0 21 35 0 g c0 78 128873 (by show L ≤ 0 + 6 * L; omega) (by decide) (by decide) (by decide) ⟨P0, fun _ _ _ => 0, 0, fun _ => 0, 0, fun _ => 0, 0, 0, INV_0 h⟩)
  subst fa0
  rw [lg_entry_eq]
  refine K p e room_1 s m _ below meth c s.heap.size fa (fun _ => 0) _ _ s.heap [] _ _ ⟨⟨hx, hb, hml, hr, hlocks, hown, fun h => absurd h (by decide +kernel)⟩, fun w hw => hts w (List.mem_filter.mp hw).1, hK, Nat.le_refl _, hFX, hFK, hNW, ⟨by decide, by decide, rfl, rfl⟩⟩ ⟨rfl, fun k q h => by simp [wl] at h, va_S.rf⟩ (LR.entry (av := [vf 0]) rfl (by decide)) ?_
  intro r M H locs pc ls hret hp hH
  subst hp
  refine va_forget (fun q hq => hH.2.2.2.2 q hq) ?_
  have e1 : Int32.ofInt 1 = 1 := by decide
  show W p l e room_1 s m _ below meth c H [] 600000 7302250 _ (F0 m pc ls [.int (Int32.ofInt 1)])
  rw [e1]
  exact lw_ret hx hb hr hlocks hret.1

