/-! BYTES: what is fed, on both sides -/
def byN (z : Int) (s : Nat) : Nat := (Int32.ofInt z).toBitVec.toNat / 2 ^ s % 256
theorem byN_lt (z : Int) (s : Nat) : byN z s < 256 := Nat.mod_lt _ (by decide)
theorem bv8 (v : BitVec 8) : v.toInt = sb v.toNat := by
  have h := v.isLt
  rw [BitVec.toInt_eq_toNat_cond]
  unfold sb
  by_cases h1 : v.toNat < 128
  · rw [if_pos h1, if_pos (by omega)]
  · rw [if_neg h1, if_neg (by omega)]
    rfl
theorem ref_byte_bv (x : BitVec 32) (s : Nat) (hs : s = 0 ∨ s = 8 ∨ s = 16 ∨ s = 24) : ((x >>> s) &&& 255#32).toInt = ((x.toNat / 2 ^ s % 256 : Nat) : Int) := by
  have e : ((x >>> s) &&& 255#32).toNat = x.toNat / 2 ^ s % 256 := by
    rw [BitVec.toNat_and, BitVec.toNat_ushiftRight, Nat.shiftRight_eq_div_pow]
    show x.toNat / 2 ^ s &&& 255 = _
    exact Nat.and_two_pow_sub_one_eq_mod (n := 8) _
  rw [BitVec.toInt_eq_toNat_of_lt (by rw [e]; have : x.toNat / 2 ^ s % 256 < 256 := Nat.mod_lt _ (by decide); omega), e]
theorem cls_byte_bv (x : BitVec 32) (s : Nat) (hs : s = 0 ∨ s = 8 ∨ s = 16 ∨ s = 24) : (x.sshiftRight s).setWidth 8 = (x >>> s).setWidth 8 := by
  ext i hi
  simp only [BitVec.getElem_setWidth, BitVec.getLsbD_sshiftRight, BitVec.getLsbD_ushiftRight]
  have h1 : ¬ 32 ≤ i := by omega
  have h2 : s + i < 32 := by omega
  simp [h1, h2]
theorem cls_byte_nat (x : BitVec 32) (s : Nat) : ((x >>> s).setWidth 8).toNat = x.toNat / 2 ^ s % 256 := by
  rw [BitVec.toNat_setWidth, BitVec.toNat_ushiftRight, Nat.shiftRight_eq_div_pow]
theorem se8 (v : BitVec 32) : v.signExtend 8 = v.setWidth 8 := by
  ext i hi
  have h : i < 32 := by omega
  simp [BitVec.getElem_signExtend, h, BitVec.getLsbD_eq_getElem]
theorem b8_sbk : ∀ v : Fin 256, b8 (sb v.val) = sb v.val := by decide +kernel
theorem b8_sb {v : Nat} (h : v < 256) : b8 (sb v) = sb v := b8_sbk ⟨v, h⟩

theorem ref_byte_0 (z : Int) : and32 (ushr32 z 0) 255 = ((byN z 0 : Nat) : Int) := by
  unfold and32 ushr32
  rw [i_of_toInt]
  exact ref_byte_bv (Int32.ofInt z).toBitVec 0 (by decide)
theorem cls_byte_0 (z : Int) : b8 (shr32 z 0) = sb (byN z 0) := by
  unfold b8 shr32
  rw [i_of_toInt]
  have e : ((Int32.ofInt z >>> (Int32.ofInt 0 &&& 31)).toInt8.toInt32).toInt = (((Int32.ofInt z).toBitVec.sshiftRight 0).setWidth 8).toInt := by
    rw [Int8.toInt_toInt32]
    have e0 : (Int32.ofInt 0 &&& 31).toBitVec.smod 32 = BitVec.ofNat 32 0 := by decide
    show (((Int32.ofInt z >>> (Int32.ofInt 0 &&& 31)).toBitVec).signExtend 8).toInt = _
    rw [se8, Int32.toBitVec_shiftRight, e0]
    rfl
  rw [e, cls_byte_bv _ _ (by decide), bv8, cls_byte_nat]
  rfl

theorem ref_byte_8 (z : Int) : and32 (ushr32 z 8) 255 = ((byN z 8 : Nat) : Int) := by
  unfold and32 ushr32
  rw [i_of_toInt]
  exact ref_byte_bv (Int32.ofInt z).toBitVec 8 (by decide)
theorem cls_byte_8 (z : Int) : b8 (shr32 z 8) = sb (byN z 8) := by
  unfold b8 shr32
  rw [i_of_toInt]
  have e : ((Int32.ofInt z >>> (Int32.ofInt 8 &&& 31)).toInt8.toInt32).toInt = (((Int32.ofInt z).toBitVec.sshiftRight 8).setWidth 8).toInt := by
    rw [Int8.toInt_toInt32]
    have e0 : (Int32.ofInt 8 &&& 31).toBitVec.smod 32 = BitVec.ofNat 32 8 := by decide
    show (((Int32.ofInt z >>> (Int32.ofInt 8 &&& 31)).toBitVec).signExtend 8).toInt = _
    rw [se8, Int32.toBitVec_shiftRight, e0]
    rfl
  rw [e, cls_byte_bv _ _ (by decide), bv8, cls_byte_nat]
  rfl

theorem ref_byte_16 (z : Int) : and32 (ushr32 z 16) 255 = ((byN z 16 : Nat) : Int) := by
  unfold and32 ushr32
  rw [i_of_toInt]
  exact ref_byte_bv (Int32.ofInt z).toBitVec 16 (by decide)
theorem cls_byte_16 (z : Int) : b8 (shr32 z 16) = sb (byN z 16) := by
  unfold b8 shr32
  rw [i_of_toInt]
  have e : ((Int32.ofInt z >>> (Int32.ofInt 16 &&& 31)).toInt8.toInt32).toInt = (((Int32.ofInt z).toBitVec.sshiftRight 16).setWidth 8).toInt := by
    rw [Int8.toInt_toInt32]
    have e0 : (Int32.ofInt 16 &&& 31).toBitVec.smod 32 = BitVec.ofNat 32 16 := by decide
    show (((Int32.ofInt z >>> (Int32.ofInt 16 &&& 31)).toBitVec).signExtend 8).toInt = _
    rw [se8, Int32.toBitVec_shiftRight, e0]
    rfl
  rw [e, cls_byte_bv _ _ (by decide), bv8, cls_byte_nat]
  rfl

theorem ref_byte_24 (z : Int) : and32 (ushr32 z 24) 255 = ((byN z 24 : Nat) : Int) := by
  unfold and32 ushr32
  rw [i_of_toInt]
  exact ref_byte_bv (Int32.ofInt z).toBitVec 24 (by decide)
theorem cls_byte_24 (z : Int) : b8 (shr32 z 24) = sb (byN z 24) := by
  unfold b8 shr32
  rw [i_of_toInt]
  have e : ((Int32.ofInt z >>> (Int32.ofInt 24 &&& 31)).toInt8.toInt32).toInt = (((Int32.ofInt z).toBitVec.sshiftRight 24).setWidth 8).toInt := by
    rw [Int8.toInt_toInt32]
    have e0 : (Int32.ofInt 24 &&& 31).toBitVec.smod 32 = BitVec.ofNat 32 24 := by decide
    show (((Int32.ofInt z >>> (Int32.ofInt 24 &&& 31)).toBitVec).signExtend 8).toInt = _
    rw [se8, Int32.toBitVec_shiftRight, e0]
    rfl
  rw [e, cls_byte_bv _ _ (by decide), bv8, cls_byte_nat]
  rfl

