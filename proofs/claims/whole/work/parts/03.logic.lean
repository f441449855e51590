/-! THE LOGIC: numbers as Int, cells by number, one memory function; SW: the machine comes from here to a return with 'post'; SM: a method does so -/
abbrev AV : Type := Int ⊕ (Int ⊕ (Option Nat ⊕ Nat))
abbrev vi (z : Int) : AV := Sum.inl z
abbrev vl (z : Int) : AV := Sum.inr (Sum.inl z)
abbrev vr (i : Nat) : AV := Sum.inr (Sum.inr (Sum.inl (some i)))
abbrev vn : AV := Sum.inr (Sum.inr (Sum.inl none))
abbrev vf (k : Nat) : AV := Sum.inr (Sum.inr (Sum.inr k))
def cv (b : Nat) (fa : Nat → Nat) (v : AV) : Value := match v with
  | .inl z => .int (Int32.ofInt z)
  | .inr (.inl z) => .long (Int64.ofInt z)
  | .inr (.inr (.inl none)) => .null
  | .inr (.inr (.inl (some i))) => .ref (b + i)
  | .inr (.inr (.inr k)) => .ref (fa k)
/-- a cell's shape: an array (type 0 int, 1 byte, 2 boolean, 3 long; length), or an object (class; its references) -/
abbrev Sh : Type := (Nat × Nat) ⊕ (Nat × List (Option Nat))
/-- the memory: shapes, how many cells, all numbers -/
abbrev AM : Type := (Nat → Sh) × Nat × (Nat → Nat → Int)
def fvv (b : Nat) (refs : List (Option Nat)) (f : Nat → Int) (t k : Nat) : Value := match t with
  | 0 => .int (Int32.ofInt (f k))
  | 1 => .long (Int64.ofInt (f k))
  | _ => va_rf ((refs.getD k none).map (fun i => b + i))
def fvs (b ci : Nat) (refs : List (Option Nat)) (f : Nat → Int) : List Value := (List.range (fty ci).length).map fun k => fvv b refs f ((fty ci).getD k 0) k
def ce (b : Nat) (cy : Nat → ClassId) (sh : Sh) (f : Nat → Int) : va_E := match sh with
  | .inl q => .inl (cy q.1, q.2, if q.1 = 3 then .inr (.inl (fun k => Int64.ofInt (f k))) else .inl (fun k => Int32.ofInt (f k)))
  | .inr q => .inr (q.1, fvs b q.1 q.2 f)
def wl (b : Nat) (cy : Nat → ClassId) (M : AM) : va_W := (List.range M.2.1).map fun i => (b + i, ce b cy (M.1 i) (M.2.2 i))
def up2 (c : Nat → Nat → Int) (i k : Nat) (z : Int) : Nat → Nat → Int := fun i' k' => if i' = i ∧ k' = k then z else c i' k'
def upS (sh : Nat → Sh) (i : Nat) (q : Sh) : Nat → Sh := fun i' => if i' = i then q else sh i'
abbrev GG : Type := Launch × Nat × (Nat → Int32)
def cmn (j : Nat) : Int := ([0, 1, 10826, 13401, 21173, 26068, 23056, 49020, 38637, 727, 18315] : List Int).getD j 0
abbrev A_ (b : Nat) : Nat → Prop := fun q => b ≤ q
/-- what lies outside the world and is read: the script, the table COMMON, the two words, two statics of the library -/
def FX (G : GG) (b : Nat) (fa fv : Nat → Nat) (U : State) (H : Heap) : Prop :=
  (va_X (fa 0) G.2.1 G.2.2 U H ∧ fa 0 < b) ∧
  (va_Z "ReflectionWordsModel" "COMMON" "[I" (.ref (fa 1)) (A_ b) U H ∧ va_T .int (fa 1) 11 (fun j => .int (Int32.ofInt (cmn j))) (A_ b) U H) ∧
  vk_S 2 [5, 4] [[103, 114, 111, 117, 112], [98, 111, 110, 100]] (fun i => fa (2 + i)) (fun i => fa (4 + i)) (A_ b) U H ∧
  va_Z "java/lang/String" "COMPACT_STRINGS" "Z" (.int 1) (A_ b) U H ∧ (va_Z "jdk/internal/util/Preconditions" "SIOOBE_FORMATTER" "Ljava/util/function/BiFunction;" .null (A_ b) U H ∨ va_Z "jdk/internal/util/Preconditions" "SIOOBE_FORMATTER" "Ljava/util/function/BiFunction;" (.ref (fa 6)) (A_ b) U H)
/-- the words' places in the pools -/
def FK (fa : Nat → Nat) (U : State) : Prop :=
  vk_R "ReflectionWords$Telling" 68 "group" (fa 2) U ∧ vk_R "ReflectionWords$Telling" 78 "bond" (fa 3) U ∧ vk_R "ReflectionWordsModel" 162 "group" (fa 2) U ∧ vk_R "ReflectionWordsModel" 171 "bond" (fa 3) U
theorem FX.moved {G : GG} {b : Nat} {fa fv : Nat → Nat} {u U : State} {H : Heap} (hvm : u.vm.Alike U.vm) (h : FX G b fa fv u H) : FX G b fa fv U H :=
  ⟨⟨h.1.1.moved hvm, h.1.2⟩, ⟨h.2.1.1.moved hvm, h.2.1.2.moved hvm⟩, h.2.2.1.moved hvm, h.2.2.2.1.moved hvm, h.2.2.2.2.elim (fun q => Or.inl (q.moved hvm)) (fun q => Or.inr (q.moved hvm))⟩
theorem FX.kept {G : GG} {b : Nat} {fa fv : Nat → Nat} {U : State} {H H1 : Heap} (hb : b ≤ H.size) (hq : ∀ a : Nat, a < H.size → ¬ A_ b a → H1[a]? = H[a]?) (h : FX G b fa fv U H) : FX G b fa fv U H1 :=
  ⟨⟨h.1.1.kept (hq _ (Nat.lt_of_lt_of_le h.1.2 hb) (Nat.not_le.mpr h.1.2)), h.1.2⟩, ⟨h.2.1.1.kept hq, h.2.1.2.kept hq⟩, h.2.2.1.kept hq, h.2.2.2.1.kept hq, h.2.2.2.2.elim (fun q => Or.inl (q.kept hq)) (fun q => Or.inr (q.kept hq))⟩
theorem FK.warm {fa : Nat → Nat} {s U : State} (hW : s.WarmedH U.vm) (h : FK fa s) : FK fa U := ⟨h.1.warm hW, h.2.1.warm hW, h.2.2.1.warm hW, h.2.2.2.warm hW⟩
theorem FK.same {fa : Nat → Nat} {u U : State} (hv : U.vm = u.vm) (h : FK fa u) : FK fa U := ⟨h.1.same hv, h.2.1.same hv, h.2.2.1.same hv, h.2.2.2.same hv⟩
/-- links of private methods to a class around -/
def nests : List (String × Nat × MethodName) := [(RX1, 113, yX8_hasBit), (RX2, 35, yX8_hasBit), (RX4, 62, yX8_hasBit), (RX0, 39, yX8_hasBit), (RX5, 63, yX8_letterOfRow)]
def NW (U : State) : Prop := ∀ w ∈ nests, va_Nw (.methodLinkNest w.1 w.2.1 w.2.2 RX8) U
theorem NW.warm {s U : State} (hW : s.WarmedH U.vm) (h : NW s) : NW U := fun w hw => va_Nw.warmM hW (h w hw)
theorem NW.same {u U : State} (hv : u.vm = U.vm) (h : NW u) : NW U := fun w hw => va_Nw.same rfl hv (h w hw)
abbrev tyl (cy : Nat → ClassId) : List (ClassId × FieldType) := [(cy 0, .int), (cy 1, .byte), (cy 2, .boolean), (cy 3, .long)]
def Wd (G : GG) (b : Nat) (fa fv : Nat → Nat) (cy : Nat → ClassId) (D : va_G) (M : AM) (U : State) : Prop :=
  U.heap.size = b + M.2.1 ∧ va_P D vwCl (wl b cy M) U.heap ∧ va_K D vwCl (tyl cy) U ∧ FX G b fa fv U U.heap ∧ FK fa U ∧ NW U
def Qp (b : Nat) (fa : Nat → Nat) (cy : Nat → ClassId) (D : va_G) (post : Option AV → AM → Prop) : Array Value → State → Outcome → State → Prop := fun _ st o t =>
  (∃ (r : Option AV) (M : AM), o = .returned (r.map (cv b fa)) ∧ post r M ∧ t.heap.size = b + M.2.1 ∧ va_P D vwCl (wl b cy M) t.heap) ∧ va_F (A_ b) st t
def rmj (j mc ms : Nat) : Room := { frames := j, cells := mc, slots := ms, locals := 64 * j }
def wsM (y : Mth) : List Cond := .code y.1 y.2.1 y.2.2.1 y.2.2.2.1 :: wsG
/-- method y, called with av in memory M, returns with post; at most mc cells of ms places are new; j: how deep it calls -/
def SM (G : GG) (j : Nat) (y : Mth) (av : List AV) (M : AM) (mc ms : Nat) (post : Option AV → AM → Prop) : Prop :=
  ∀ (b : Nat) (fa fv : Nat → Nat) (cy : Nat → ClassId) (D : va_G), Met G.1 y.1 (wsM y) (rmj j mc ms) (va_Pc (av.map (cv b fa)) (Wd G b fa fv cy D M)) (Qp b fa cy D post) mc ms (A_ b)
def RetAt (me : Mth) (pc : Nat) (r : Option AV) : Prop := match r with
  | none => decode me.2.1 pc = .ok (.return_, 1) ∧ me.2.2.2.1 = none
  | some (.inl z) => decode me.2.1 pc = .ok (.ireturn, 1) ∧ (me.2.2.2.1 = some .int ∨ (me.2.2.2.1 = some .boolean ∧ (z = 0 ∨ z = 1)) ∨ ∃ ty, me.2.2.2.1 = some ty ∧ narrow ty (.int (Int32.ofInt z)) = .int (Int32.ofInt z))
  | some (.inr (.inl _)) => decode me.2.1 pc = .ok (.lreturn, 1) ∧ me.2.2.2.1 = some .long
  | _ => False
def Cx (G : GG) (j : Nat) (me : Mth) (mc ms : Nat) (p : Program) (R : Room) (s : State) (m : MethodId) (args : Array Value) (meth : Method) (c : Code) (b : Nat) (fa fv : Nat → Nat) (cy : Nat → ClassId) (D : va_G) : Prop :=
  (p.tables.exec = Jvm.exec ∧ c.code = me.2.1 ∧ c.maxLocals = me.2.2.1 ∧ meth.sig.returnType = me.2.2.2.1 ∧ meth.locks = false ∧ s.vm.findClass me.2.2.2.2 = some m.cls ∧ (me.1.name = "<init>" → meth.name = "<init>")) ∧
  (∀ w ∈ wsG, w.before args s = true) ∧ va_K D vwCl (tyl cy) s ∧ b ≤ s.heap.size ∧ FX G b fa fv s s.heap ∧ FK fa s ∧ NW s ∧
  (j + 1 ≤ R.frames ∧ 64 * (j + 1) ≤ R.locals ∧ R.cells = mc ∧ R.slots = ms)
def Hp (b : Nat) (cy : Nat → ClassId) (D : va_G) (M : AM) (s : State) (H : Heap) (locs : List Loc) : Prop :=
  H.size = b + M.2.1 ∧ va_P D vwCl (wl b cy M) H ∧ va_S (A_ b) s.heap H locs
def LR (b : Nat) (fa : Nat → Nat) (nL : Nat) (ls : Array Slot) (lo : List (Option AV)) : Prop :=
  ls.size = nL ∧ lv_wf ls ∧ ∀ (i : Nat) (v : AV), lo[i]? = some (some v) → ls[i]? = some (.val (cv b fa v))
abbrev BB : Type := Nat × Nat × Nat × Nat
abbrev B0 : BB := (0, 0, 0, 0)
def Ex (me : Mth) (B : BB) (post : Option AV → AM → Prop) (p : Program) (l : Launch) (e : Env) (R : Room) (s : State) (m : MethodId) (args : Array Value) (below : List Frame) (meth : Method) (c : Code) (b : Nat) (fa : Nat → Nat) (cy : Nat → ClassId) (D : va_G) (Q : State → Prop) : Prop :=
  ∀ (r : Option AV) (M : AM) (H : Heap) (locs : List Loc) (pc : Nat) (ls : Array Slot), RetAt me pc r → post r M → Hp b cy D M s H locs → W p l e R s m args below meth c H locs B.2.2.1 B.2.2.2 Q (F0 m pc ls (r.map (cv b fa)).toList)
def SW (G : GG) (j : Nat) (me : Mth) (pc : Nat) (lo : List (Option AV)) (st : List AV) (M : AM) (B : BB) (post : Option AV → AM → Prop) : Prop :=
  ∀ (p : Program) (e : Env) (R : Room) (s : State) (m : MethodId) (args : Array Value) (below : List Frame) (meth : Method) (c : Code) (b : Nat) (fa fv : Nat → Nat) (cy : Nat → ClassId) (D : va_G) (H : Heap) (locs : List Loc) (ls : Array Slot) (Q : State → Prop),
    Cx G j me B.2.2.1 B.2.2.2 p R s m args meth c b fa fv cy D → Hp b cy D M s H locs → LR b fa me.2.2.1 ls lo → Ex me B post p G.1 e R s m args below meth c b fa cy D Q →
    W p G.1 e R s m args below meth c H locs B.1 B.2.1 Q (F0 m pc ls (st.map (cv b fa)))
-- lists
theorem wl_get {b : Nat} {cy : Nat → ClassId} {M : AM} {i : Nat} (h : i < M.2.1) : (wl b cy M)[i]? = some (b + i, ce b cy (M.1 i) (M.2.2 i)) := by
  simp [wl, h]
theorem wl_len {b : Nat} {cy : Nat → ClassId} {M : AM} : (wl b cy M).length = M.2.1 := by simp [wl]
theorem wl_some {b : Nat} {cy : Nat → ClassId} {M : AM} {i : Nat} {q : Nat × va_E} (h : (wl b cy M)[i]? = some q) : i < M.2.1 ∧ q = (b + i, ce b cy (M.1 i) (M.2.2 i)) := by
  have hl : i < (wl b cy M).length := (List.getElem?_eq_some_iff.mp h).1
  rw [wl_len] at hl
  rw [wl_get hl] at h
  exact ⟨hl, (Option.some.inj h).symm⟩
theorem wl_D {b : Nat} {cy : Nat → ClassId} {M : AM} : va_D (A_ b) (wl b cy M) := by
  refine ⟨fun i j p q hi hj h => ?_, fun k q hk => ?_⟩
  · have h1 := (wl_some hi).2
    have h2 := (wl_some hj).2
    subst h1; subst h2
    simp only at h
    omega
  · have h1 := (wl_some hk).2
    subst h1
    exact Nat.le_add_right _ _
theorem up2_off {c : Nat → Nat → Int} {i k j : Nat} {z : Int} (h : j ≠ i) : up2 c i k z j = c j := by
  funext k'
  simp [up2, h]
theorem wl_up2 {b : Nat} {cy : Nat → ClassId} {sh : Nat → Sh} {n : Nat} {c : Nat → Nat → Int} {i k : Nat} {z : Int} : (wl b cy (sh, n, c)).set i (b + i, ce b cy (sh i) (up2 c i k z i)) = wl b cy (sh, n, up2 c i k z) := by
  apply List.ext_getElem?
  intro q
  rw [List.getElem?_set]
  by_cases hq : i = q
  · subst hq
    rw [if_pos rfl]
    by_cases hl : i < n
    · rw [if_pos (by rw [wl_len]; exact hl), wl_get (M := (sh, n, up2 c i k z)) hl]
    · rw [if_neg (by rw [wl_len]; exact hl)]
      exact (List.getElem?_eq_none (by rw [wl_len]; exact Nat.not_lt.mp hl)).symm
  · rw [if_neg hq]
    by_cases hl : q < n
    · rw [wl_get (M := (sh, n, c)) hl, wl_get (M := (sh, n, up2 c i k z)) hl]
      show some (b + q, ce b cy (sh q) (c q)) = some (b + q, ce b cy (sh q) (up2 c i k z q))
      rw [up2_off (fun h => hq h.symm)]
    · rw [List.getElem?_eq_none (by rw [wl_len]; exact Nat.not_lt.mp hl), List.getElem?_eq_none (by rw [wl_len]; exact Nat.not_lt.mp hl)]
theorem wl_upS {b : Nat} {cy : Nat → ClassId} {sh : Nat → Sh} {n : Nat} {c : Nat → Nat → Int} {i : Nat} {q0 : Sh} : (wl b cy (sh, n, c)).set i (b + i, ce b cy q0 (c i)) = wl b cy (upS sh i q0, n, c) := by
  apply List.ext_getElem?
  intro q
  rw [List.getElem?_set]
  by_cases hq : i = q
  · subst hq
    rw [if_pos rfl]
    by_cases hl : i < n
    · rw [if_pos (by rw [wl_len]; exact hl), wl_get (M := (upS sh i q0, n, c)) hl]
      simp [upS]
    · rw [if_neg (by rw [wl_len]; exact hl)]
      exact (List.getElem?_eq_none (by rw [wl_len]; exact Nat.not_lt.mp hl)).symm
  · rw [if_neg hq]
    by_cases hl : q < n
    · rw [wl_get (M := (sh, n, c)) hl, wl_get (M := (upS sh i q0, n, c)) hl]
      simp [upS, Ne.symm hq]
    · rw [List.getElem?_eq_none (by rw [wl_len]; exact Nat.not_lt.mp hl), List.getElem?_eq_none (by rw [wl_len]; exact Nat.not_lt.mp hl)]
theorem wl_push {b : Nat} {cy : Nat → ClassId} {sh : Nat → Sh} {n : Nat} {c c' : Nat → Nat → Int} {q0 : Sh} (hc : ∀ i, i < n → c' i = c i) : wl b cy (sh, n, c) ++ [(b + n, ce b cy q0 (c' n))] = wl b cy (upS sh n q0, n + 1, c') := by
  simp only [wl, List.range_succ, List.map_append, List.map_cons, List.map_nil]
  congr 1
  · apply List.map_congr_left
    intro i hi
    have hi' : i < n := List.mem_range.mp hi
    simp [upS, Nat.ne_of_lt hi', hc i hi']
  · simp [upS]
theorem fvs_len {b ci : Nat} {refs : List (Option Nat)} {f : Nat → Int} : (fvs b ci refs f).length = (fty ci).length := by simp [fvs]
theorem fvs_get {b ci k t : Nat} {refs : List (Option Nat)} {f : Nat → Int} (h : (fty ci)[k]? = some t) : (fvs b ci refs f)[k]? = some (fvv b refs f t k) := by
  obtain ⟨hl, he⟩ := List.getElem?_eq_some_iff.mp h
  simp [fvs, hl, he]
theorem fvs_set {b ci k t : Nat} {refs : List (Option Nat)} {c : Nat → Nat → Int} {i : Nat} {z : Int} {v : Value} (h : (fty ci)[k]? = some t) (hv : fvv b refs (up2 c i k z i) t k = v) (ht : t < 2) :
    (fvs b ci refs (c i)).set k v = fvs b ci refs (up2 c i k z i) := by
  apply List.ext_getElem?
  intro q
  rw [List.getElem?_set]
  by_cases hq : k = q
  · subst hq
    obtain ⟨hl, -⟩ := List.getElem?_eq_some_iff.mp h
    rw [if_pos rfl, if_pos (by rw [fvs_len]; exact hl), fvs_get h, hv]
  · rw [if_neg hq]
    cases hz : (fty ci)[q]? with
    | none =>
      have h1 := List.getElem?_eq_none_iff.mp hz
      rw [List.getElem?_eq_none (by rw [fvs_len]; exact h1), List.getElem?_eq_none (by rw [fvs_len]; exact h1)]
    | some t' =>
      rw [fvs_get hz, fvs_get hz]
      have e1 : up2 c i k z i q = c i q := by simp [up2, Ne.symm hq]
      unfold fvv
      split <;> simp [e1]
theorem fvs_setR {b ci k t : Nat} {refs : List (Option Nat)} {f : Nat → Int} {r : Option Nat} (h : (fty ci)[k]? = some t) (ht : 2 ≤ t) (hk : k < refs.length) :
    (fvs b ci refs f).set k (va_rf (r.map (fun i => b + i))) = fvs b ci (refs.set k r) f := by
  apply List.ext_getElem?
  intro q
  rw [List.getElem?_set]
  by_cases hq : k = q
  · subst hq
    obtain ⟨hl, -⟩ := List.getElem?_eq_some_iff.mp h
    rw [if_pos rfl, if_pos (by rw [fvs_len]; exact hl), fvs_get h]
    unfold fvv
    split
    · omega
    · omega
    · simp [hk]
  · rw [if_neg hq]
    cases hz : (fty ci)[q]? with
    | none =>
      have h1 := List.getElem?_eq_none_iff.mp hz
      rw [List.getElem?_eq_none (by rw [fvs_len]; exact h1), List.getElem?_eq_none (by rw [fvs_len]; exact h1)]
    | some t' =>
      rw [fvs_get hz, fvs_get hz]
      unfold fvv
      split <;> simp [List.getElem?_set, hq]
-- numbers
theorem oI_in {z : Int} {n : Nat} (h0 : 0 ≤ z) (h : z < (n : Int)) (hn : n < 2147483648) : vp_in (Int32.ofInt z) n ∧ (Int32.ofInt z).toNatClampNeg = z.toNat := by
  obtain ⟨k, rfl⟩ := Int.eq_ofNat_of_zero_le h0
  have hk : k < n := by omega
  have e : Int32.ofInt (k : Int) = nI k := by first | rfl | simp [nI, Int32.ofInt, Int32.ofNat]
  rw [e]
  exact ⟨vp_in_nI hk (by omega), by rw [nI_clamp (by omega)]; rfl⟩
