/-! RULES: what lies outside the world: the script, COMMON, the words; switches -/
section RF
variable {G : GG} {j : Nat} {me : Mth} {pc : Nat} {lo lo' : List (Option AV)} {st : List AV} {M : AM} {B : BB} {post : Option AV → AM → Prop}
theorem sw_sld {z : Int} (hd : decode me.2.1 pc = .ok (.iaload, 1)) (hl : G.2.1 < 2147483648) (h0 : 0 ≤ z) (h1 : z < (G.2.1 : Int)) (K : SW G j me (pc + 1) lo (vi (G.2.2 z.toNat).toInt :: st) M B post) : SW G j me pc lo (vi z :: vf 0 :: st) M B post := by
  intro p e R s m args below meth c b fa fv cy D H locs ls Q C hH hL hE
  obtain ⟨i1, i2⟩ := oI_in h0 h1 hl
  have hX := C.2.2.2.2.1.1
  refine va_sld C.1.1 C.1.2.1 hX.1 (Nat.lt_of_lt_of_le hX.2 C.2.2.2.1) (Nat.not_le.mpr hX.2) hH.2.2 i1 hd ?_
  have := K p e R s m args below meth c b fa fv cy D H locs ls Q C hH hL hE
  rw [i2]
  simpa only [List.map_cons, cv, i_of_toInt] using this
theorem sw_slen (hd : decode me.2.1 pc = .ok (.arraylength, 1)) (K : SW G j me (pc + 1) lo (vi (G.2.1 : Int) :: st) M B post) : SW G j me pc lo (vf 0 :: st) M B post := by
  intro p e R s m args below meth c b fa fv cy D H locs ls Q C hH hL hE
  have hX := C.2.2.2.2.1.1
  exact va_slen C.1.1 C.1.2.1 hX.1 (Nat.lt_of_lt_of_le hX.2 C.2.2.2.1) (Nat.not_le.mpr hX.2) hH.2.2 hd (K p e R s m args below meth c b fa fv cy D H locs ls Q C hH hL hE)
theorem sw_common {ix : Nat} (hd : decode me.2.1 pc = .ok (.getstatic ix, 3)) (hw : Cond.fieldLink me.2.2.2.2 ix "ReflectionWordsModel" "COMMON" "[I" ∈ wsG) (K : SW G j me (pc + 3) lo (vf 1 :: st) M B post) : SW G j me pc lo st M B post := by
  intro p e R s m args below meth c b fa fv cy D H locs ls Q C hH hL hE
  exact va_gets C.1.1 C.1.2.1 C.2.2.2.2.1.2.1.1 hH.2.2 C.1.2.2.2.2.2.1 (C.2.1 _ hw) (fun _ h => h) hd (K p e R s m args below meth c b fa fv cy D H locs ls Q C hH hL hE)
theorem sw_cald {z : Int} (hd : decode me.2.1 pc = .ok (.iaload, 1)) (h0 : 0 ≤ z) (h1 : z < 11) (K : SW G j me (pc + 1) lo (vi (cmn z.toNat) :: st) M B post) : SW G j me pc lo (vi z :: vf 1 :: st) M B post := by
  intro p e R s m args below meth c b fa fv cy D H locs ls Q C hH hL hE
  obtain ⟨i1, i2⟩ := oI_in (n := 11) h0 h1 (by decide)
  exact va_ti C.1.1 C.1.2.1 C.2.2.2.2.1.2.1.2 hH.2.2 i1 (by rw [i2]; rfl) hd (K p e R s m args below meth c b fa fv cy D H locs ls Q C hH hL hE)
theorem sw_ldcS {ix k : Nat} {tx : String} (hd : decode me.2.1 pc = .ok (.ldc ix, 2)) (hF : ∀ (fa : Nat → Nat) (s : State), FK fa s → vk_R me.2.2.2.2 ix tx (fa k) s) (K : SW G j me (pc + 2) lo (vf k :: st) M B post) : SW G j me pc lo st M B post := by
  intro p e R s m args below meth c b fa fv cy D H locs ls Q C hH hL hE
  exact va_ldcS C.1.1 C.1.2.1 C.1.2.2.2.2.2.1 (hF fa s C.2.2.2.2.2.1) hd (K p e R s m args below meth c b fa fv cy D H locs ls Q C hH hL hE)
theorem sw_gvalue {ix i : Nat} (hi : i < 2) (hd : decode me.2.1 pc = .ok (.getfield ix, 3)) (hw : Cond.fieldLink me.2.2.2.2 ix "java/lang/String" "value" "[B" ∈ wsG) (K : SW G j me (pc + 3) lo (vf (4 + i) :: st) M B post) : SW G j me pc lo (vf (2 + i) :: st) M B post := by
  intro p e R s m args below meth c b fa fv cy D H locs ls Q C hH hL hE
  exact vk_getf C.1.1 C.1.2.1 (C.2.2.2.2.1.2.2.1.1 i hi).2.2.1 hH.2.2 C.1.2.2.2.2.2.1 (C.2.1 _ hw) (fun _ h => h) hd (K p e R s m args below meth c b fa fv cy D H locs ls Q C hH hL hE)
theorem sw_gcoder {ix i : Nat} (hi : i < 2) (hd : decode me.2.1 pc = .ok (.getfield ix, 3)) (hw : Cond.fieldLink me.2.2.2.2 ix "java/lang/String" "coder" "B" ∈ wsG) (K : SW G j me (pc + 3) lo (vi 0 :: st) M B post) : SW G j me pc lo (vf (2 + i) :: st) M B post := by
  intro p e R s m args below meth c b fa fv cy D H locs ls Q C hH hL hE
  exact vk_getf C.1.1 C.1.2.1 (C.2.2.2.2.1.2.2.1.1 i hi).2.1 hH.2.2 C.1.2.2.2.2.2.1 (C.2.1 _ hw) (fun _ h => h) hd (K p e R s m args below meth c b fa fv cy D H locs ls Q C hH hL hE)
theorem sw_gcompact {ix : Nat} (hd : decode me.2.1 pc = .ok (.getstatic ix, 3)) (hw : Cond.fieldLink me.2.2.2.2 ix "java/lang/String" "COMPACT_STRINGS" "Z" ∈ wsG) (K : SW G j me (pc + 3) lo (vi 1 :: st) M B post) : SW G j me pc lo st M B post := by
  intro p e R s m args below meth c b fa fv cy D H locs ls Q C hH hL hE
  exact va_gets C.1.1 C.1.2.1 C.2.2.2.2.1.2.2.2.1 hH.2.2 C.1.2.2.2.2.2.1 (C.2.1 _ hw) (fun _ h => h) hd (K p e R s m args below meth c b fa fv cy D H locs ls Q C hH hL hE)
theorem sw_gform {ix : Nat} (hd : decode me.2.1 pc = .ok (.getstatic ix, 3)) (hw : Cond.fieldLink me.2.2.2.2 ix "jdk/internal/util/Preconditions" "SIOOBE_FORMATTER" "Ljava/util/function/BiFunction;" ∈ wsG) (K1 : SW G j me (pc + 3) lo (vn :: st) M B post) (K2 : SW G j me (pc + 3) lo (vf 6 :: st) M B post) : SW G j me pc lo st M B post := by
  intro p e R s m args below meth c b fa fv cy D H locs ls Q C hH hL hE
  rcases C.2.2.2.2.1.2.2.2.2 with h | h
  · exact va_gets C.1.1 C.1.2.1 h hH.2.2 C.1.2.2.2.2.2.1 (C.2.1 _ hw) (fun _ h => h) hd (K1 p e R s m args below meth c b fa fv cy D H locs ls Q C hH hL hE)
  · exact va_gets C.1.1 C.1.2.1 h hH.2.2 C.1.2.2.2.2.2.1 (C.2.1 _ hw) (fun _ h => h) hd (K2 p e R s m args below meth c b fa fv cy D H locs ls Q C hH hL hE)
def wlen (i : Nat) : Nat := ([5, 4] : List Nat).getD i 0
def wbyt (i k : Nat) : Int := (([[103, 114, 111, 117, 112], [98, 111, 110, 100]] : List (List Int)).getD i []).getD k 0
theorem wbyt_ok : ∀ i, i < 2 → ∀ k, ((([[103, 114, 111, 117, 112], [98, 111, 110, 100]] : List (List Int32)).getD i []).getD k 0) = Int32.ofInt (wbyt i k) := by
  intro i hi k
  match i, hi with
  | 0, _ =>
    match k with
    | 0 => rfl
    | 1 => rfl
    | 2 => rfl
    | 3 => rfl
    | 4 => rfl
    | k + 5 => rfl
  | 1, _ =>
    match k with
    | 0 => rfl
    | 1 => rfl
    | 2 => rfl
    | 3 => rfl
    | k + 4 => rfl
theorem sw_wlen {i : Nat} (hi : i < 2) (hd : decode me.2.1 pc = .ok (.arraylength, 1)) (K : SW G j me (pc + 1) lo (vi (wlen i : Int) :: st) M B post) : SW G j me pc lo (vf (4 + i) :: st) M B post := by
  intro p e R s m args below meth c b fa fv cy D H locs ls Q C hH hL hE
  exact va_tlen C.1.1 C.1.2.1 (C.2.2.2.2.1.2.2.1.1 i hi).2.2.2 hH.2.2 (v := Int32.ofInt (wlen i : Int)) rfl hd (K p e R s m args below meth c b fa fv cy D H locs ls Q C hH hL hE)
theorem sw_wald {i : Nat} {z : Int} (hi : i < 2) (hd : decode me.2.1 pc = .ok (.baload, 1)) (h0 : 0 ≤ z) (h1 : z < (wlen i : Int)) (K : SW G j me (pc + 1) lo (vi (wbyt i z.toNat) :: st) M B post) : SW G j me pc lo (vi z :: vf (4 + i) :: st) M B post := by
  intro p e R s m args below meth c b fa fv cy D H locs ls Q C hH hL hE
  have hw : wlen i < 2147483648 := by
    match i, hi with
    | 0, _ => decide
    | 1, _ => decide
  obtain ⟨i1, i2⟩ := oI_in (n := wlen i) h0 h1 hw
  exact va_tb C.1.1 C.1.2.1 (C.2.2.2.2.1.2.2.1.1 i hi).2.2.2 hH.2.2 i1 (by rw [i2, wbyt_ok i hi]; rfl) hd (K p e R s m args below meth c b fa fv cy D H locs ls Q C hH hL hE)
theorem sw_i2c {x : Int} (hd : decode me.2.1 pc = .ok (.i2c, 1)) (hx : 0 ≤ x ∧ x < 65536) (K : SW G j me (pc + 1) lo (vi x :: st) M B post) : SW G j me pc lo (vi x :: st) M B post := by
  intro p e R s m args below meth c b fa fv cy D H locs ls Q C hH hL hE
  obtain ⟨k, rfl⟩ := Int.eq_ofNat_of_zero_le hx.1
  refine lv_i2c C.1.1 C.1.2.1 hd ?_ (K p e R s m args below meth c b fa fv cy D H locs ls Q C hH hL hE)
  have hk : k < 65536 := by omega
  have e : Int32.ofInt (k : Int) = nI k := rfl
  rw [e, pk_char, pk_tn (by omega), Nat.mod_eq_of_lt hk]
theorem sw_tsIn {df l0 h0 z off : Int} {offs : Array Int} {len tgt : Nat} (hd : decode me.2.1 pc = .ok (.tableswitch df l0 h0 offs, len)) (hz : -2147483648 ≤ z ∧ z < 2147483648) (h1 : ¬ z < l0) (h2 : ¬ h0 < z) (ho : offs[(z - l0).toNat]? = some off) (ht : (pc : Int) + off = (tgt : Int)) (K : SW G j me tgt lo st M B post) : SW G j me pc lo (vi z :: st) M B post :=
  fun p e R s m args below meth c b fa fv cy D H locs ls Q C hH hL hE => lv_tableIn (x := Int32.ofInt z) C.1.1 C.1.2.1 hd (by rw [i_toInt hz]; exact h1) (by rw [i_toInt hz]; exact h2) (by rw [i_toInt hz]; exact ho) ht (K p e R s m args below meth c b fa fv cy D H locs ls Q C hH hL hE)
theorem sw_tsOut {df l0 h0 z : Int} {offs : Array Int} {len tgt : Nat} (hd : decode me.2.1 pc = .ok (.tableswitch df l0 h0 offs, len)) (hz : -2147483648 ≤ z ∧ z < 2147483648) (h : z < l0 ∨ h0 < z) (ht : (pc : Int) + df = (tgt : Int)) (K : SW G j me tgt lo st M B post) : SW G j me pc lo (vi z :: st) M B post :=
  fun p e R s m args below meth c b fa fv cy D H locs ls Q C hH hL hE => lv_tableOut (x := Int32.ofInt z) C.1.1 C.1.2.1 hd (by rw [i_toInt hz]; exact h) ht (K p e R s m args below meth c b fa fv cy D H locs ls Q C hH hL hE)
def LkF (own : String) (ix : Nat) (y : Mth) (np : Nat) : Prop := MW y ∧ Cond.methodLink own ix y.1 ∈ wsG ∧ Cond.instanceMethod y.1 ∈ wsG ∧ Cond.selects y.1.cls y.1 y.1 ∈ wsG ∧ (parseMethodDescriptor y.1.desc).map (fun d => d.parameters.length) = some np ∧ y.1.cls = "java/lang/String"
theorem sw_callF {ix np i : Nat} {y : Mth} {As : List AV} {st0 : List AV} {B' : BB} (hi : i < 2) (hd : decode me.2.1 pc = .ok (.invokevirtual ix, 3)) (hl : LkF me.2.2.2.2 ix y np) (hn : As.length = np) (hst : As.reverse ++ vf (2 + i) :: st = st0) (hc : rcat st ≤ 8) (hB : B' = B) (h1 : B.1 ≤ B.2.2.1) (h2 : B.2.1 ≤ B.2.2.2)
    (hM : SM G j y (vf (2 + i) :: As) M 0 0 (fun r M' => SW G j me (pc + 3) lo (r.toList ++ st) M' B' post)) : SW G j me pc lo st0 M B post := by
  intro p e R s m args below meth c b fa fv cy D H locs ls Q C hH hL hE
  obtain ⟨hy, hw1, hw2, hw3, hw4, hcl⟩ := hl
  have hR := C.2.2.2.2.2.2.2
  subst hB; subst hst
  have hrecv := vk_recv (C.2.2.2.2.1.2.2.1) hi hH.2.2
  refine call_back (B := B') (st0 := ((As.reverse ++ vf (2 + i) :: st).map (cv b fa))) (va_runV (b := fa (2 + i)) (As := As.map (cv b fa)) (rest := st.map (cv b fa)) (n := np) (nL := me.2.2.1) (cc := me.2.1) (Ts := wsG) (own := me.2.2.2.2) (C := y.1.cls) (bytes := y.2.1) (maxL := y.2.2.1) (ret := y.2.2.2.1) ⟨C.1.1, C.1.2.1, C.1.2.2.1, C.1.2.2.2.2.2.1, C.2.1⟩ (hM b fa fv cy D) ⟨callB_of np C.2.1 (goodG hy.1) rfl rfl rfl (C.2.1 _ hy.2.2.2.2.2) (C.2.1 _ hw1) ⟨hy.2.2.2.1.1, hy.2.2.2.1.2, hw4⟩ ⟨hR.1, by have := hR.2.1; have := hy.2.2.1; simp only [rmj]; omega⟩, C.2.1 _ hw2, C.2.1 _ hw3⟩ ⟨Wd_blind, by rw [hcl]; exact hrecv, fun U hU hW => ⟨rfl, Wd_at C hH U hU hW⟩⟩ rfl (by simpa using hn) hL.1 (by simp [cv]) (lv_room (rcat_ok hc)) hd ⟨by rw [hR.2.2.1]; exact h1, by rw [hR.2.2.2]; exact h2⟩) C hH hL hE rfl (fun r M' h => h)
theorem sw_aload_nn {k : Fin 4} {i : Nat} (hd : decode me.2.1 pc = .ok (.aload_n k, 1)) (hi : (k : Nat) = i) (h : lo[i]? = some (some vn)) (K : SW G j me (pc + 1) lo (vn :: st) M B post) : SW G j me pc lo st M B post :=
  fun p e R s m args below meth c b fa fv cy D H locs ls Q C hH hL hE => lv_aload_nN C.1.1 C.1.2.1 hd hi (hL.2.2 i _ h) (K p e R s m args below meth c b fa fv cy D H locs ls Q C hH hL hE)
/-- Math.max, Math.min -/
def LkM (own : String) (ix : Nat) (y : MethodName) (b : ByteArray) (nL : Nat) (r : Option FieldType) : Prop := Cond.methodLink own ix y ∈ wsG ∧ Cond.static y ∈ wsG ∧ Cond.initialized "java/lang/Math" ∈ wsG ∧ Cond.code y b nL r ∈ wsG
theorem sw_imax {ix : Nat} {x y : Int} (hd : decode me.2.1 pc = .ok (.invokestatic ix, 3)) (hl : LkM me.2.2.2.2 ix Lib.Math.max.name Lib.Math.max.code 2 (some .int)) (hc : rcat st ≤ 8) (h1 : B.1 ≤ B.2.2.1) (h2 : B.2.1 ≤ B.2.2.2) (hx : -2147483648 ≤ x ∧ x < 2147483648) (hy : -2147483648 ≤ y ∧ y < 2147483648)
    (K : SW G j me (pc + 3) lo (vi (if x < y then y else x) :: st) M B post) : SW G j me pc lo (vi y :: vi x :: st) M B post := by
  intro p e R s m args below meth c b fa fv cy D H locs ls Q C hH hL hE
  have hR := C.2.2.2.2.2.2.2
  have hq := rcat_ok (b := b) (fa := fa) hc
  refine va_mmax C.1.1 C.1.2.1 (C.1.2.2.1.trans hL.1.symm) C.1.2.2.2.2.2.1 (C.2.1 _ hl.1) (C.2.1 _ hl.2.1) (C.2.1 _ hl.2.2.1) (C.2.1 _ hl.2.2.2) (by have := hR.1; omega) (by have := hR.2.1; omega) (by rw [hR.2.2.1]; exact h1) (by rw [hR.2.2.2]; exact h2) hd ?_
  have := K p e R s m args below meth c b fa fv cy D H locs ls Q C hH hL hE
  have e1 : (if Int32.ofInt x < Int32.ofInt y then Int32.ofInt y else Int32.ofInt x) = Int32.ofInt (if x < y then y else x) := by
    by_cases h : x < y
    · rw [if_pos h, if_pos ((i_lt hx hy).mpr h)]
    · rw [if_neg h, if_neg (fun q => h ((i_lt hx hy).mp q))]
  rw [e1]
  exact this
theorem sw_imin {ix : Nat} {x y : Int} (hd : decode me.2.1 pc = .ok (.invokestatic ix, 3)) (hl : LkM me.2.2.2.2 ix Lib.Math.min.name Lib.Math.min.code 2 (some .int)) (hc : rcat st ≤ 8) (h1 : B.1 ≤ B.2.2.1) (h2 : B.2.1 ≤ B.2.2.2) (hx : -2147483648 ≤ x ∧ x < 2147483648) (hy : -2147483648 ≤ y ∧ y < 2147483648)
    (K : SW G j me (pc + 3) lo (vi (if y < x then y else x) :: st) M B post) : SW G j me pc lo (vi y :: vi x :: st) M B post := by
  intro p e R s m args below meth c b fa fv cy D H locs ls Q C hH hL hE
  have hR := C.2.2.2.2.2.2.2
  have hq := rcat_ok (b := b) (fa := fa) hc
  refine va_mmin C.1.1 C.1.2.1 (C.1.2.2.1.trans hL.1.symm) C.1.2.2.2.2.2.1 (C.2.1 _ hl.1) (C.2.1 _ hl.2.1) (C.2.1 _ hl.2.2.1) (C.2.1 _ hl.2.2.2) (by have := hR.1; omega) (by have := hR.2.1; omega) (by rw [hR.2.2.1]; exact h1) (by rw [hR.2.2.2]; exact h2) hd ?_
  have := K p e R s m args below meth c b fa fv cy D H locs ls Q C hH hL hE
  have e1 : (if Int32.ofInt y < Int32.ofInt x then Int32.ofInt y else Int32.ofInt x) = Int32.ofInt (if y < x then y else x) := by
    by_cases h : y < x
    · rw [if_pos h, if_pos ((i_lt hy hx).mpr h)]
    · rw [if_neg h, if_neg (fun q => h ((i_lt hy hx).mp q))]
  rw [e1]
  exact this
theorem sw_lmin {ix : Nat} {x y : Int} (hd : decode me.2.1 pc = .ok (.invokestatic ix, 3)) (hl : LkM me.2.2.2.2 ix Lib.MathLoose.min_long.x Lib.MathLoose.min_long.code 4 (some .long)) (hc : rcat st ≤ 8) (h1 : B.1 ≤ B.2.2.1) (h2 : B.2.1 ≤ B.2.2.2) (hx : -9223372036854775808 ≤ x ∧ x < 9223372036854775808) (hy : -9223372036854775808 ≤ y ∧ y < 9223372036854775808)
    (K : SW G j me (pc + 3) lo (vl (if y < x then y else x) :: st) M B post) : SW G j me pc lo (vl y :: vl x :: st) M B post := by
  intro p e R s m args below meth c b fa fv cy D H locs ls Q C hH hL hE
  have hR := C.2.2.2.2.2.2.2
  have hq := rcat_ok (b := b) (fa := fa) hc
  refine va_mmin_long C.1.1 C.1.2.1 (C.1.2.2.1.trans hL.1.symm) C.1.2.2.2.2.2.1 (C.2.1 _ hl.1) (C.2.1 _ hl.2.1) (C.2.1 _ hl.2.2.1) (C.2.1 _ hl.2.2.2) (by have := hR.1; omega) (by have := hR.2.1; omega) (by rw [hR.2.2.1]; exact h1) (by rw [hR.2.2.2]; exact h2) hd ?_
  have := K p e R s m args below meth c b fa fv cy D H locs ls Q C hH hL hE
  have e1 : (if Int64.ofInt y < Int64.ofInt x then Int64.ofInt y else Int64.ofInt x) = Int64.ofInt (if y < x then y else x) := by
    by_cases h : y < x
    · rw [if_pos h, if_pos ((l_lt hy hx).mpr h)]
    · rw [if_neg h, if_neg (fun q => h ((l_lt hy hx).mp q))]
  rw [e1]
  exact this
end RF
