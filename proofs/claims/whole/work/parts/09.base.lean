/-! THE LAYOUT of the world behind both constructors (78 cells, then what is thrown away), booleans, rules over natural numbers -/
def tabS (nw nx : Nat) : List Sh := [.inr (8, [some 1, some 3, some 5, some 7, some 9, some 11, some 15, some 20, some nw, some nx, none]), .inr (6, [some 2, none, none, none, none]), .inl (1, 300), .inr (7, [some 4, none, none, none, none]), .inl (0, 25), .inr (4, [some 6, none]), .inl (0, 28800), .inr (0, [some 8, none]), .inl (3, 180), .inr (2, [some 10]), .inl (0, 960), .inr (5, [some 12, some 13, some 14, none, none]), .inl (3, 240), .inl (0, 240), .inl (0, 240), .inr (3, [some 16, some 17, some 18, some 19, none, none]), .inl (3, 30), .inl (3, 90), .inl (3, 3), .inl (0, 3), .inl (3, 60), .inr (1, [some 22, some 23, some 24, some 25, some 26, some 27, some 28, some 29, some 30, some 31, some 32, some 33, some 34, none, none, none]), .inl (0, 25), .inl (0, 60), .inl (0, 60), .inl (0, 60), .inl (0, 300), .inl (0, 3600), .inl (0, 60), .inl (0, 60), .inl (0, 60), .inl (0, 60), .inl (0, 60), .inl (3, 60), .inl (3, 60), .inr (1, [some 36, some 37, some 38, some 39, some 40, some 41, some 42, some 43, some 44, some 45, some 46, some 47, some 48, none, none, none]), .inl (0, 25), .inl (0, 60), .inl (0, 60), .inl (0, 60), .inl (0, 300), .inl (0, 3600), .inl (0, 60), .inl (0, 60), .inl (0, 60), .inl (0, 60), .inl (0, 60), .inl (3, 60), .inl (3, 60), .inr (9, [some 50, none, none, none, none, none, some 51, some 52, none, none, none, none, none, some 53, some 54, some 55, some 56, some 57, some 58, some 59, some 60, none, none, none, none, some 61, some 62, none, some 63, some 64, some 65, some 66, some 67, some 68, some 69, some 70, some 71, some 72, none, none, some 73, some 74, some 75, some 76, some 77]), .inl (0, 300), .inl (0, 25), .inl (0, 25), .inl (0, 1525), .inl (0, 300), .inl (0, 300), .inl (0, 60), .inl (0, 60), .inl (0, 60), .inl (0, 60), .inl (0, 60), .inl (0, 14), .inl (0, 4200), .inl (0, 300), .inl (2, 3600), .inl (0, 50400), .inl (0, 25200), .inl (3, 60), .inl (3, 60), .inl (3, 840), .inl (3, 840), .inl (0, 60), .inl (3, 60), .inl (3, 30), .inl (3, 3), .inl (0, 3), .inl (3, 90), .inl (2, 3)]
def S (nw nx : Nat) (g : Nat → Sh) : Nat → Sh := fun i => if i < 78 then (tabS nw nx).getD i (.inl (0, 0)) else g i
theorem S_0 (nw nx : Nat) (g : Nat → Sh) : S nw nx g 0 = .inr (8, [some 1, some 3, some 5, some 7, some 9, some 11, some 15, some 20, some nw, some nx, none]) := rfl
theorem S_1 (nw nx : Nat) (g : Nat → Sh) : S nw nx g 1 = .inr (6, [some 2, none, none, none, none]) := rfl
theorem S_2 (nw nx : Nat) (g : Nat → Sh) : S nw nx g 2 = .inl (1, 300) := rfl
theorem S_3 (nw nx : Nat) (g : Nat → Sh) : S nw nx g 3 = .inr (7, [some 4, none, none, none, none]) := rfl
theorem S_4 (nw nx : Nat) (g : Nat → Sh) : S nw nx g 4 = .inl (0, 25) := rfl
theorem S_5 (nw nx : Nat) (g : Nat → Sh) : S nw nx g 5 = .inr (4, [some 6, none]) := rfl
theorem S_6 (nw nx : Nat) (g : Nat → Sh) : S nw nx g 6 = .inl (0, 28800) := rfl
theorem S_7 (nw nx : Nat) (g : Nat → Sh) : S nw nx g 7 = .inr (0, [some 8, none]) := rfl
theorem S_8 (nw nx : Nat) (g : Nat → Sh) : S nw nx g 8 = .inl (3, 180) := rfl
theorem S_9 (nw nx : Nat) (g : Nat → Sh) : S nw nx g 9 = .inr (2, [some 10]) := rfl
theorem S_10 (nw nx : Nat) (g : Nat → Sh) : S nw nx g 10 = .inl (0, 960) := rfl
theorem S_11 (nw nx : Nat) (g : Nat → Sh) : S nw nx g 11 = .inr (5, [some 12, some 13, some 14, none, none]) := rfl
theorem S_12 (nw nx : Nat) (g : Nat → Sh) : S nw nx g 12 = .inl (3, 240) := rfl
theorem S_13 (nw nx : Nat) (g : Nat → Sh) : S nw nx g 13 = .inl (0, 240) := rfl
theorem S_14 (nw nx : Nat) (g : Nat → Sh) : S nw nx g 14 = .inl (0, 240) := rfl
theorem S_15 (nw nx : Nat) (g : Nat → Sh) : S nw nx g 15 = .inr (3, [some 16, some 17, some 18, some 19, none, none]) := rfl
theorem S_16 (nw nx : Nat) (g : Nat → Sh) : S nw nx g 16 = .inl (3, 30) := rfl
theorem S_17 (nw nx : Nat) (g : Nat → Sh) : S nw nx g 17 = .inl (3, 90) := rfl
theorem S_18 (nw nx : Nat) (g : Nat → Sh) : S nw nx g 18 = .inl (3, 3) := rfl
theorem S_19 (nw nx : Nat) (g : Nat → Sh) : S nw nx g 19 = .inl (0, 3) := rfl
theorem S_20 (nw nx : Nat) (g : Nat → Sh) : S nw nx g 20 = .inl (3, 60) := rfl
theorem S_21 (nw nx : Nat) (g : Nat → Sh) : S nw nx g 21 = .inr (1, [some 22, some 23, some 24, some 25, some 26, some 27, some 28, some 29, some 30, some 31, some 32, some 33, some 34, none, none, none]) := rfl
theorem S_22 (nw nx : Nat) (g : Nat → Sh) : S nw nx g 22 = .inl (0, 25) := rfl
theorem S_23 (nw nx : Nat) (g : Nat → Sh) : S nw nx g 23 = .inl (0, 60) := rfl
theorem S_24 (nw nx : Nat) (g : Nat → Sh) : S nw nx g 24 = .inl (0, 60) := rfl
theorem S_25 (nw nx : Nat) (g : Nat → Sh) : S nw nx g 25 = .inl (0, 60) := rfl
theorem S_26 (nw nx : Nat) (g : Nat → Sh) : S nw nx g 26 = .inl (0, 300) := rfl
theorem S_27 (nw nx : Nat) (g : Nat → Sh) : S nw nx g 27 = .inl (0, 3600) := rfl
theorem S_28 (nw nx : Nat) (g : Nat → Sh) : S nw nx g 28 = .inl (0, 60) := rfl
theorem S_29 (nw nx : Nat) (g : Nat → Sh) : S nw nx g 29 = .inl (0, 60) := rfl
theorem S_30 (nw nx : Nat) (g : Nat → Sh) : S nw nx g 30 = .inl (0, 60) := rfl
theorem S_31 (nw nx : Nat) (g : Nat → Sh) : S nw nx g 31 = .inl (0, 60) := rfl
theorem S_32 (nw nx : Nat) (g : Nat → Sh) : S nw nx g 32 = .inl (0, 60) := rfl
theorem S_33 (nw nx : Nat) (g : Nat → Sh) : S nw nx g 33 = .inl (3, 60) := rfl
theorem S_34 (nw nx : Nat) (g : Nat → Sh) : S nw nx g 34 = .inl (3, 60) := rfl
theorem S_35 (nw nx : Nat) (g : Nat → Sh) : S nw nx g 35 = .inr (1, [some 36, some 37, some 38, some 39, some 40, some 41, some 42, some 43, some 44, some 45, some 46, some 47, some 48, none, none, none]) := rfl
theorem S_36 (nw nx : Nat) (g : Nat → Sh) : S nw nx g 36 = .inl (0, 25) := rfl
theorem S_37 (nw nx : Nat) (g : Nat → Sh) : S nw nx g 37 = .inl (0, 60) := rfl
theorem S_38 (nw nx : Nat) (g : Nat → Sh) : S nw nx g 38 = .inl (0, 60) := rfl
theorem S_39 (nw nx : Nat) (g : Nat → Sh) : S nw nx g 39 = .inl (0, 60) := rfl
theorem S_40 (nw nx : Nat) (g : Nat → Sh) : S nw nx g 40 = .inl (0, 300) := rfl
theorem S_41 (nw nx : Nat) (g : Nat → Sh) : S nw nx g 41 = .inl (0, 3600) := rfl
theorem S_42 (nw nx : Nat) (g : Nat → Sh) : S nw nx g 42 = .inl (0, 60) := rfl
theorem S_43 (nw nx : Nat) (g : Nat → Sh) : S nw nx g 43 = .inl (0, 60) := rfl
theorem S_44 (nw nx : Nat) (g : Nat → Sh) : S nw nx g 44 = .inl (0, 60) := rfl
theorem S_45 (nw nx : Nat) (g : Nat → Sh) : S nw nx g 45 = .inl (0, 60) := rfl
theorem S_46 (nw nx : Nat) (g : Nat → Sh) : S nw nx g 46 = .inl (0, 60) := rfl
theorem S_47 (nw nx : Nat) (g : Nat → Sh) : S nw nx g 47 = .inl (3, 60) := rfl
theorem S_48 (nw nx : Nat) (g : Nat → Sh) : S nw nx g 48 = .inl (3, 60) := rfl
theorem S_49 (nw nx : Nat) (g : Nat → Sh) : S nw nx g 49 = .inr (9, [some 50, none, none, none, none, none, some 51, some 52, none, none, none, none, none, some 53, some 54, some 55, some 56, some 57, some 58, some 59, some 60, none, none, none, none, some 61, some 62, none, some 63, some 64, some 65, some 66, some 67, some 68, some 69, some 70, some 71, some 72, none, none, some 73, some 74, some 75, some 76, some 77]) := rfl
theorem S_50 (nw nx : Nat) (g : Nat → Sh) : S nw nx g 50 = .inl (0, 300) := rfl
theorem S_51 (nw nx : Nat) (g : Nat → Sh) : S nw nx g 51 = .inl (0, 25) := rfl
theorem S_52 (nw nx : Nat) (g : Nat → Sh) : S nw nx g 52 = .inl (0, 25) := rfl
theorem S_53 (nw nx : Nat) (g : Nat → Sh) : S nw nx g 53 = .inl (0, 1525) := rfl
theorem S_54 (nw nx : Nat) (g : Nat → Sh) : S nw nx g 54 = .inl (0, 300) := rfl
theorem S_55 (nw nx : Nat) (g : Nat → Sh) : S nw nx g 55 = .inl (0, 300) := rfl
theorem S_56 (nw nx : Nat) (g : Nat → Sh) : S nw nx g 56 = .inl (0, 60) := rfl
theorem S_57 (nw nx : Nat) (g : Nat → Sh) : S nw nx g 57 = .inl (0, 60) := rfl
theorem S_58 (nw nx : Nat) (g : Nat → Sh) : S nw nx g 58 = .inl (0, 60) := rfl
theorem S_59 (nw nx : Nat) (g : Nat → Sh) : S nw nx g 59 = .inl (0, 60) := rfl
theorem S_60 (nw nx : Nat) (g : Nat → Sh) : S nw nx g 60 = .inl (0, 60) := rfl
theorem S_61 (nw nx : Nat) (g : Nat → Sh) : S nw nx g 61 = .inl (0, 14) := rfl
theorem S_62 (nw nx : Nat) (g : Nat → Sh) : S nw nx g 62 = .inl (0, 4200) := rfl
theorem S_63 (nw nx : Nat) (g : Nat → Sh) : S nw nx g 63 = .inl (0, 300) := rfl
theorem S_64 (nw nx : Nat) (g : Nat → Sh) : S nw nx g 64 = .inl (2, 3600) := rfl
theorem S_65 (nw nx : Nat) (g : Nat → Sh) : S nw nx g 65 = .inl (0, 50400) := rfl
theorem S_66 (nw nx : Nat) (g : Nat → Sh) : S nw nx g 66 = .inl (0, 25200) := rfl
theorem S_67 (nw nx : Nat) (g : Nat → Sh) : S nw nx g 67 = .inl (3, 60) := rfl
theorem S_68 (nw nx : Nat) (g : Nat → Sh) : S nw nx g 68 = .inl (3, 60) := rfl
theorem S_69 (nw nx : Nat) (g : Nat → Sh) : S nw nx g 69 = .inl (3, 840) := rfl
theorem S_70 (nw nx : Nat) (g : Nat → Sh) : S nw nx g 70 = .inl (3, 840) := rfl
theorem S_71 (nw nx : Nat) (g : Nat → Sh) : S nw nx g 71 = .inl (0, 60) := rfl
theorem S_72 (nw nx : Nat) (g : Nat → Sh) : S nw nx g 72 = .inl (3, 60) := rfl
theorem S_73 (nw nx : Nat) (g : Nat → Sh) : S nw nx g 73 = .inl (3, 30) := rfl
theorem S_74 (nw nx : Nat) (g : Nat → Sh) : S nw nx g 74 = .inl (3, 3) := rfl
theorem S_75 (nw nx : Nat) (g : Nat → Sh) : S nw nx g 75 = .inl (0, 3) := rfl
theorem S_76 (nw nx : Nat) (g : Nat → Sh) : S nw nx g 76 = .inl (3, 90) := rfl
theorem S_77 (nw nx : Nat) (g : Nat → Sh) : S nw nx g 77 = .inl (2, 3) := rfl
theorem S_e {nw nx e : Nat} {g : Nat → Sh} (he : e = 21 ∨ e = 35) : S nw nx g e = .inr (1, [some (e + 1), some (e + 2), some (e + 3), some (e + 4), some (e + 5), some (e + 6), some (e + 7), some (e + 8), some (e + 9), some (e + 10), some (e + 11), some (e + 12), some (e + 13), none, none, none]) := by rcases he with rfl | rfl <;> rfl
theorem S_e_1 {nw nx e : Nat} {g : Nat → Sh} (he : e = 21 ∨ e = 35) : S nw nx g (e + 1) = .inl (0, 25) := by rcases he with rfl | rfl <;> rfl
theorem S_e_2 {nw nx e : Nat} {g : Nat → Sh} (he : e = 21 ∨ e = 35) : S nw nx g (e + 2) = .inl (0, 60) := by rcases he with rfl | rfl <;> rfl
theorem S_e_3 {nw nx e : Nat} {g : Nat → Sh} (he : e = 21 ∨ e = 35) : S nw nx g (e + 3) = .inl (0, 60) := by rcases he with rfl | rfl <;> rfl
theorem S_e_4 {nw nx e : Nat} {g : Nat → Sh} (he : e = 21 ∨ e = 35) : S nw nx g (e + 4) = .inl (0, 60) := by rcases he with rfl | rfl <;> rfl
theorem S_e_5 {nw nx e : Nat} {g : Nat → Sh} (he : e = 21 ∨ e = 35) : S nw nx g (e + 5) = .inl (0, 300) := by rcases he with rfl | rfl <;> rfl
theorem S_e_6 {nw nx e : Nat} {g : Nat → Sh} (he : e = 21 ∨ e = 35) : S nw nx g (e + 6) = .inl (0, 3600) := by rcases he with rfl | rfl <;> rfl
theorem S_e_7 {nw nx e : Nat} {g : Nat → Sh} (he : e = 21 ∨ e = 35) : S nw nx g (e + 7) = .inl (0, 60) := by rcases he with rfl | rfl <;> rfl
theorem S_e_8 {nw nx e : Nat} {g : Nat → Sh} (he : e = 21 ∨ e = 35) : S nw nx g (e + 8) = .inl (0, 60) := by rcases he with rfl | rfl <;> rfl
theorem S_e_9 {nw nx e : Nat} {g : Nat → Sh} (he : e = 21 ∨ e = 35) : S nw nx g (e + 9) = .inl (0, 60) := by rcases he with rfl | rfl <;> rfl
theorem S_e_10 {nw nx e : Nat} {g : Nat → Sh} (he : e = 21 ∨ e = 35) : S nw nx g (e + 10) = .inl (0, 60) := by rcases he with rfl | rfl <;> rfl
theorem S_e_11 {nw nx e : Nat} {g : Nat → Sh} (he : e = 21 ∨ e = 35) : S nw nx g (e + 11) = .inl (0, 60) := by rcases he with rfl | rfl <;> rfl
theorem S_e_12 {nw nx e : Nat} {g : Nat → Sh} (he : e = 21 ∨ e = 35) : S nw nx g (e + 12) = .inl (3, 60) := by rcases he with rfl | rfl <;> rfl
theorem S_e_13 {nw nx e : Nat} {g : Nat → Sh} (he : e = 21 ∨ e = 35) : S nw nx g (e + 13) = .inl (3, 60) := by rcases he with rfl | rfl <;> rfl
theorem S_lt {gn : Nat} (a : Nat) (h : a < 78) : a < 78 + gn := Nat.lt_of_lt_of_le h (Nat.le_add_right _ _)
theorem S_e_lt {e gn : Nat} (he : e = 21 ∨ e = 35) : e < 78 + gn := by omega
theorem S_ek_lt {e k gn : Nat} (he : e = 21 ∨ e = 35) (hk : k ≤ 13) : e + k < 78 + gn := by omega
def bz (p : Bool) : Int := if p then 1 else 0
theorem bz_rng (p : Bool) : -2147483648 ≤ bz p ∧ bz p < 2147483648 := by cases p <;> decide
theorem bz_01 (p : Bool) : bz p = 0 ∨ bz p = 1 := by cases p <;> decide
theorem bz_0 {p : Bool} (h : bz p = 0) : p = false := by cases p with
  | false => rfl
  | true => exact absurd h (by decide)
theorem bz_n0 {p : Bool} (h : ¬ bz p = 0) : p = true := by cases p with
  | false => exact absurd rfl h
  | true => rfl
theorem bz_1 {p : Bool} (h : bz p ≠ 0) : p = true := bz_n0 h
theorem bz_n1 {p : Bool} (h : bz p = 0) : p = false := bz_0 h
theorem nI_of_int (n : Nat) : Int32.ofInt (n : Int) = nI n := rfl
theorem lN_of_int (n : Nat) : Int64.ofInt (n : Int) = lN n := rfl
theorem nrng {n : Nat} (h : n < 2147483648) : -2147483648 ≤ (n : Int) ∧ (n : Int) < 2147483648 := by omega
theorem nrngL {n : Nat} (h : n < 9223372036854775808) : -9223372036854775808 ≤ (n : Int) ∧ (n : Int) < 9223372036854775808 := by omega
theorem nI_and (a b : Nat) : nI a &&& nI b = nI (a &&& b) := by
  apply Int32.toBitVec_inj.mp
  show (nI a).toBitVec &&& (nI b).toBitVec = (nI (a &&& b)).toBitVec
  show BitVec.ofNat 32 a &&& BitVec.ofNat 32 b = BitVec.ofNat 32 (a &&& b)
  exact (BitVec.ofNat_and).symm
theorem nI_or (a b : Nat) : nI a ||| nI b = nI (a ||| b) := by
  apply Int32.toBitVec_inj.mp
  show BitVec.ofNat 32 a ||| BitVec.ofNat 32 b = BitVec.ofNat 32 (a ||| b)
  exact (BitVec.ofNat_or).symm
theorem nI_xor (a b : Nat) : nI a ^^^ nI b = nI (a ^^^ b) := by
  apply Int32.toBitVec_inj.mp
  show BitVec.ofNat 32 a ^^^ BitVec.ofNat 32 b = BitVec.ofNat 32 (a ^^^ b)
  exact (BitVec.ofNat_xor).symm
theorem lN_and (a b : Nat) : lN a &&& lN b = lN (a &&& b) := by
  apply Int64.toBitVec_inj.mp
  show BitVec.ofNat 64 a &&& BitVec.ofNat 64 b = BitVec.ofNat 64 (a &&& b)
  exact (BitVec.ofNat_and).symm
theorem lN_or (a b : Nat) : lN a ||| lN b = lN (a ||| b) := by
  apply Int64.toBitVec_inj.mp
  show BitVec.ofNat 64 a ||| BitVec.ofNat 64 b = BitVec.ofNat 64 (a ||| b)
  exact (BitVec.ofNat_or).symm
theorem lN_xor (a b : Nat) : lN a ^^^ lN b = lN (a ^^^ b) := by
  apply Int64.toBitVec_inj.mp
  show BitVec.ofNat 64 a ^^^ BitVec.ofNat 64 b = BitVec.ofNat 64 (a ^^^ b)
  exact (BitVec.ofNat_xor).symm
/-- a without b, as sets of bits -/
def andn (a b : Nat) : Nat := a ^^^ (a &&& b)
theorem andn_bit (a b i : Nat) : (andn a b).testBit i = (a.testBit i && !b.testBit i) := by
  simp only [andn, Nat.testBit_xor, Nat.testBit_and]
  cases a.testBit i <;> cases b.testBit i <;> rfl
theorem lN_andn (a b : Nat) : lN a &&& (lN b ^^^ Int64.ofInt (-1)) = lN (andn a b) := by
  apply Int64.toBitVec_inj.mp
  show BitVec.ofNat 64 a &&& (BitVec.ofNat 64 b ^^^ BitVec.allOnes 64) = BitVec.ofNat 64 (andn a b)
  apply BitVec.eq_of_getLsbD_eq
  intro i hi
  simp only [BitVec.getLsbD_and, BitVec.getLsbD_xor, BitVec.getLsbD_ofNat, BitVec.getLsbD_allOnes, andn_bit, hi, decide_true, Bool.true_and, Bool.xor_true]
theorem nI_andn (a b : Nat) : nI a &&& (nI b ^^^ Int32.ofInt (-1)) = nI (andn a b) := by
  apply Int32.toBitVec_inj.mp
  show BitVec.ofNat 32 a &&& (BitVec.ofNat 32 b ^^^ BitVec.allOnes 32) = BitVec.ofNat 32 (andn a b)
  apply BitVec.eq_of_getLsbD_eq
  intro i hi
  simp only [BitVec.getLsbD_and, BitVec.getLsbD_xor, BitVec.getLsbD_ofNat, BitVec.getLsbD_allOnes, andn_bit, hi, decide_true, Bool.true_and, Bool.xor_true]
theorem shlL_N (a : Nat) {k : Nat} (hk : k < 64) : Int64.ofInt (a : Int) <<< ((Int32.ofInt (k : Int)).toInt64 &&& 63) = Int64.ofInt ((a * 2 ^ k : Nat) : Int) := by
  have h63 : ∀ k, k < 64 → ((nI k).toInt64 &&& 63).toBitVec.smod 64 = BitVec.ofNat 64 k := by decide +kernel
  rw [lN_of_int, lN_of_int, nI_of_int]
  apply Int64.toBitVec_inj.mp
  rw [Int64.toBitVec_shiftLeft, h63 k hk]
  show BitVec.ofNat 64 a <<< BitVec.ofNat 64 k = BitVec.ofNat 64 (a * 2 ^ k)
  apply BitVec.eq_of_toNat_eq
  have hk2 : (BitVec.ofNat 64 k).toNat = k := by rw [BitVec.toNat_ofNat]; exact Nat.mod_eq_of_lt (by omega)
  rw [BitVec.shiftLeft_eq', BitVec.toNat_shiftLeft, hk2, BitVec.toNat_ofNat, BitVec.toNat_ofNat, Nat.shiftLeft_eq, Nat.mod_mul_mod]
theorem shrL_N {a : Nat} (ha : a < 9223372036854775808) {k : Nat} (hk : k < 64) : Int64.ofInt (a : Int) >>> ((Int32.ofInt (k : Int)).toInt64 &&& 63) = Int64.ofInt ((a / 2 ^ k : Nat) : Int) := by
  have h63 : ∀ k, k < 64 → ((nI k).toInt64 &&& 63).toBitVec.smod 64 = BitVec.ofNat 64 k := by decide +kernel
  rw [nI_of_int]
  apply Int64.toInt_inj.mp
  rw [l_toInt (nrngL (Nat.lt_of_le_of_lt (Nat.div_le_self a (2 ^ k)) ha))]
  show ((Int64.ofInt (a : Int) >>> ((nI k).toInt64 &&& 63)).toBitVec).toInt = _
  rw [Int64.toBitVec_shiftRight, h63 k hk]
  have hk2 : (BitVec.ofNat 64 k).toNat = k := by rw [BitVec.toNat_ofNat]; exact Nat.mod_eq_of_lt (by omega)
  rw [BitVec.sshiftRight_eq', BitVec.toInt_sshiftRight, hk2]
  have e : (Int64.ofInt (a : Int)).toBitVec.toInt = a := l_toInt (by omega)
  rw [e, Int.shiftRight_eq_div_pow]
  simp
theorem shlI_N (a : Nat) {k : Nat} (hk : k < 32) : Int32.ofInt (a : Int) <<< (Int32.ofInt (k : Int) &&& 31) = Int32.ofInt ((a * 2 ^ k : Nat) : Int) := by
  have h63 : ∀ k, k < 32 → ((nI k) &&& 31).toBitVec.smod 32 = BitVec.ofNat 32 k := by decide +kernel
  rw [nI_of_int, nI_of_int, nI_of_int]
  apply Int32.toBitVec_inj.mp
  rw [Int32.toBitVec_shiftLeft, h63 k hk]
  show BitVec.ofNat 32 a <<< BitVec.ofNat 32 k = BitVec.ofNat 32 (a * 2 ^ k)
  apply BitVec.eq_of_toNat_eq
  have hk2 : (BitVec.ofNat 32 k).toNat = k := by rw [BitVec.toNat_ofNat]; exact Nat.mod_eq_of_lt (by omega)
  rw [BitVec.shiftLeft_eq', BitVec.toNat_shiftLeft, hk2, BitVec.toNat_ofNat, BitVec.toNat_ofNat, Nat.shiftLeft_eq, Nat.mod_mul_mod]
section RN
variable {G : GG} {j : Nat} {me : Mth} {pc : Nat} {lo lo' : List (Option AV)} {st : List AV} {M : AM} {sh : Nat → Sh} {n : Nat} {c0 : Nat → Nat → Int} {B : BB} {post : Option AV → AM → Prop}
/-- another name of the same number on the stack -/
theorem sw_topI {x y : Int} (h : Int32.ofInt x = Int32.ofInt y) (K : SW G j me pc lo (vi y :: st) M B post) : SW G j me pc lo (vi x :: st) M B post := by
  intro p e R s m args below meth c b fa fv cy D H locs ls Q C hH hL hE
  have := K p e R s m args below meth c b fa fv cy D H locs ls Q C hH hL hE
  simpa only [List.map_cons, cv, h] using this
theorem sw_topL {x y : Int} (h : Int64.ofInt x = Int64.ofInt y) (K : SW G j me pc lo (vl y :: st) M B post) : SW G j me pc lo (vl x :: st) M B post := by
  intro p e R s m args below meth c b fa fv cy D H locs ls Q C hH hL hE
  have := K p e R s m args below meth c b fa fv cy D H locs ls Q C hH hL hE
  simpa only [List.map_cons, cv, h] using this
theorem sw_andN (x y : Nat) (hd : decode me.2.1 pc = .ok (.iand, 1)) (K : SW G j me (pc + 1) lo (vi ((x &&& y : Nat) : Int) :: st) M B post) : SW G j me pc lo (vi (y : Int) :: vi (x : Int) :: st) M B post :=
  sw_iand hd (sw_topI (by rw [and32, i_of_toInt, nI_of_int, nI_of_int, nI_of_int, nI_and]) K)
theorem sw_orN (x y : Nat) (hd : decode me.2.1 pc = .ok (.ior, 1)) (K : SW G j me (pc + 1) lo (vi ((x ||| y : Nat) : Int) :: st) M B post) : SW G j me pc lo (vi (y : Int) :: vi (x : Int) :: st) M B post :=
  sw_ior hd (sw_topI (by rw [or32, i_of_toInt, nI_of_int, nI_of_int, nI_of_int, nI_or]) K)
theorem sw_xorN (x y : Nat) (hd : decode me.2.1 pc = .ok (.ixor, 1)) (K : SW G j me (pc + 1) lo (vi ((x ^^^ y : Nat) : Int) :: st) M B post) : SW G j me pc lo (vi (y : Int) :: vi (x : Int) :: st) M B post :=
  sw_ixor hd (sw_topI (by rw [xor32, i_of_toInt, nI_of_int, nI_of_int, nI_of_int, nI_xor]) K)
theorem sw_andC (x y : Nat) (hd : decode me.2.1 pc = .ok (.iand, 1)) (K : SW G j me (pc + 1) lo (vi ((andn x y : Nat) : Int) :: st) M B post) : SW G j me pc lo (vi (xor32 (y : Int) (-1)) :: vi (x : Int) :: st) M B post :=
  sw_iand hd (sw_topI (by rw [and32, i_of_toInt, xor32, i_of_toInt, nI_of_int, nI_of_int, nI_of_int, nI_andn]) K)
theorem sw_landN (x y : Nat) (hd : decode me.2.1 pc = .ok (.land, 1)) (K : SW G j me (pc + 1) lo (vl ((x &&& y : Nat) : Int) :: st) M B post) : SW G j me pc lo (vl (y : Int) :: vl (x : Int) :: st) M B post :=
  sw_land hd (sw_topL (by rw [and64, l_of_toInt, lN_of_int, lN_of_int, lN_of_int, lN_and]) K)
theorem sw_lorN (x y : Nat) (hd : decode me.2.1 pc = .ok (.lor, 1)) (K : SW G j me (pc + 1) lo (vl ((x ||| y : Nat) : Int) :: st) M B post) : SW G j me pc lo (vl (y : Int) :: vl (x : Int) :: st) M B post :=
  sw_lor hd (sw_topL (by rw [or64, l_of_toInt, lN_of_int, lN_of_int, lN_of_int, lN_or]) K)
theorem sw_lxorN (x y : Nat) (hd : decode me.2.1 pc = .ok (.lxor, 1)) (K : SW G j me (pc + 1) lo (vl ((x ^^^ y : Nat) : Int) :: st) M B post) : SW G j me pc lo (vl (y : Int) :: vl (x : Int) :: st) M B post :=
  sw_lxor hd (sw_topL (by rw [xor64, l_of_toInt, lN_of_int, lN_of_int, lN_of_int, lN_xor]) K)
theorem sw_landC (x y : Nat) (hd : decode me.2.1 pc = .ok (.land, 1)) (K : SW G j me (pc + 1) lo (vl ((andn x y : Nat) : Int) :: st) M B post) : SW G j me pc lo (vl (xor64 (y : Int) (-1)) :: vl (x : Int) :: st) M B post :=
  sw_land hd (sw_topL (by rw [and64, l_of_toInt, xor64, l_of_toInt, lN_of_int, lN_of_int, lN_of_int, lN_andn]) K)
theorem sw_lshlN (x k : Nat) (hd : decode me.2.1 pc = .ok (.lshl, 1)) (hk : k < 64) (K : SW G j me (pc + 1) lo (vl ((x * 2 ^ k : Nat) : Int) :: st) M B post) : SW G j me pc lo (vi (k : Int) :: vl (x : Int) :: st) M B post :=
  sw_lshl hd (sw_topL (by rw [shl64, l_of_toInt, shlL_N x hk]) K)
theorem sw_lshrN (x k : Nat) (hd : decode me.2.1 pc = .ok (.lshr, 1)) (hx : x < 9223372036854775808) (hk : k < 64) (K : SW G j me (pc + 1) lo (vl ((x / 2 ^ k : Nat) : Int) :: st) M B post) : SW G j me pc lo (vi (k : Int) :: vl (x : Int) :: st) M B post :=
  sw_lshr hd (sw_topL (by rw [shr64, l_of_toInt, shrL_N hx hk]) K)
theorem sw_ishlN (x k : Nat) (hd : decode me.2.1 pc = .ok (.ishl, 1)) (hk : k < 32) (K : SW G j me (pc + 1) lo (vi ((x * 2 ^ k : Nat) : Int) :: st) M B post) : SW G j me pc lo (vi (k : Int) :: vi (x : Int) :: st) M B post :=
  sw_ishl hd (sw_topI (by rw [shl32, i_of_toInt, shlI_N x hk]) K)
theorem sw_idivN (x y : Nat) (hd : decode me.2.1 pc = .ok (.idiv, 1)) (h0 : 0 < y) (hy : y < 2147483648) (hx : x < 2147483648) (K : SW G j me (pc + 1) lo (vi ((x / y : Nat) : Int) :: st) M B post) : SW G j me pc lo (vi (y : Int) :: vi (x : Int) :: st) M B post :=
  sw_idiv hd (by rw [nI_of_int]; exact nI_ne0 h0 hy) (sw_topI (by rw [div32, i_of_toInt, nI_of_int, nI_of_int, nI_of_int, pk_div hx h0 hy]) K)
theorem sw_iremN (x y : Nat) (hd : decode me.2.1 pc = .ok (.irem, 1)) (h0 : 0 < y) (hy : y < 2147483648) (hx : x < 2147483648) (K : SW G j me (pc + 1) lo (vi ((x % y : Nat) : Int) :: st) M B post) : SW G j me pc lo (vi (y : Int) :: vi (x : Int) :: st) M B post :=
  sw_irem hd (by rw [nI_of_int]; exact nI_ne0 h0 hy) (sw_topI (by rw [rem32, i_of_toInt, nI_of_int, nI_of_int, nI_of_int, pk_rem hx h0 hy]) K)
theorem sw_lremN (x y : Nat) (hd : decode me.2.1 pc = .ok (.lrem, 1)) (h0 : 0 < y) (hy : y < 9223372036854775808) (hx : x < 9223372036854775808) (K : SW G j me (pc + 1) lo (vl ((x % y : Nat) : Int) :: st) M B post) : SW G j me pc lo (vl (y : Int) :: vl (x : Int) :: st) M B post :=
  sw_lrem hd (by rw [lN_of_int]; intro h; have h2 : lN y = lN 0 := h; have := (pk_lEQ (a := y) (b := 0) (by omega) (by omega)).mp h2; omega) (sw_topL (by rw [rem64, l_of_toInt, lN_of_int, lN_of_int, lN_of_int, pk_lRem (by omega) h0 (by omega)]) K)

theorem sw_icmpN_eq (x y : Nat) {off : Int} {tgt : Nat} (hd : decode me.2.1 pc = .ok (.if_icmp .eq off, 3)) (ht : (pc : Int) + off = (tgt : Int)) (hx : x < 2147483648) (hy : y < 2147483648) (kt : x = y → SW G j me tgt lo st M B post) (kf : ¬ x = y → SW G j me (pc + 3) lo st M B post) : SW G j me pc lo (vi (y : Int) :: vi (x : Int) :: st) M B post :=
  sw_icmp_eq hd ht (nrng hx) (nrng hy) (fun h => kt (by omega)) (fun h => kf (by omega))
theorem sw_icmpN_ne (x y : Nat) {off : Int} {tgt : Nat} (hd : decode me.2.1 pc = .ok (.if_icmp .ne off, 3)) (ht : (pc : Int) + off = (tgt : Int)) (hx : x < 2147483648) (hy : y < 2147483648) (kt : x ≠ y → SW G j me tgt lo st M B post) (kf : x = y → SW G j me (pc + 3) lo st M B post) : SW G j me pc lo (vi (y : Int) :: vi (x : Int) :: st) M B post :=
  sw_icmp_ne hd ht (nrng hx) (nrng hy) (fun h => kt (by omega)) (fun h => kf (by omega))
theorem sw_icmpN_lt (x y : Nat) {off : Int} {tgt : Nat} (hd : decode me.2.1 pc = .ok (.if_icmp .lt off, 3)) (ht : (pc : Int) + off = (tgt : Int)) (hx : x < 2147483648) (hy : y < 2147483648) (kt : x < y → SW G j me tgt lo st M B post) (kf : ¬ x < y → SW G j me (pc + 3) lo st M B post) : SW G j me pc lo (vi (y : Int) :: vi (x : Int) :: st) M B post :=
  sw_icmp_lt hd ht (nrng hx) (nrng hy) (fun h => kt (by omega)) (fun h => kf (by omega))
theorem sw_icmpN_ge (x y : Nat) {off : Int} {tgt : Nat} (hd : decode me.2.1 pc = .ok (.if_icmp .ge off, 3)) (ht : (pc : Int) + off = (tgt : Int)) (hx : x < 2147483648) (hy : y < 2147483648) (kt : y ≤ x → SW G j me tgt lo st M B post) (kf : ¬ y ≤ x → SW G j me (pc + 3) lo st M B post) : SW G j me pc lo (vi (y : Int) :: vi (x : Int) :: st) M B post :=
  sw_icmp_ge hd ht (nrng hx) (nrng hy) (fun h => kt (by omega)) (fun h => kf (by omega))
theorem sw_icmpN_gt (x y : Nat) {off : Int} {tgt : Nat} (hd : decode me.2.1 pc = .ok (.if_icmp .gt off, 3)) (ht : (pc : Int) + off = (tgt : Int)) (hx : x < 2147483648) (hy : y < 2147483648) (kt : y < x → SW G j me tgt lo st M B post) (kf : ¬ y < x → SW G j me (pc + 3) lo st M B post) : SW G j me pc lo (vi (y : Int) :: vi (x : Int) :: st) M B post :=
  sw_icmp_gt hd ht (nrng hx) (nrng hy) (fun h => kt (by omega)) (fun h => kf (by omega))
theorem sw_icmpN_le (x y : Nat) {off : Int} {tgt : Nat} (hd : decode me.2.1 pc = .ok (.if_icmp .le off, 3)) (ht : (pc : Int) + off = (tgt : Int)) (hx : x < 2147483648) (hy : y < 2147483648) (kt : x ≤ y → SW G j me tgt lo st M B post) (kf : ¬ x ≤ y → SW G j me (pc + 3) lo st M B post) : SW G j me pc lo (vi (y : Int) :: vi (x : Int) :: st) M B post :=
  sw_icmp_le hd ht (nrng hx) (nrng hy) (fun h => kt (by omega)) (fun h => kf (by omega))
theorem sw_ifN_eq (x : Nat) {off : Int} {tgt : Nat} (hd : decode me.2.1 pc = .ok (.ifCond .eq off, 3)) (ht : (pc : Int) + off = (tgt : Int)) (hx : x < 2147483648) (kt : x = 0 → SW G j me tgt lo st M B post) (kf : ¬ x = 0 → SW G j me (pc + 3) lo st M B post) : SW G j me pc lo (vi (x : Int) :: st) M B post :=
  sw_if_eq hd ht (nrng hx) (fun h => kt (by omega)) (fun h => kf (by omega))
theorem sw_ifN_ne (x : Nat) {off : Int} {tgt : Nat} (hd : decode me.2.1 pc = .ok (.ifCond .ne off, 3)) (ht : (pc : Int) + off = (tgt : Int)) (hx : x < 2147483648) (kt : x ≠ 0 → SW G j me tgt lo st M B post) (kf : x = 0 → SW G j me (pc + 3) lo st M B post) : SW G j me pc lo (vi (x : Int) :: st) M B post :=
  sw_if_ne hd ht (nrng hx) (fun h => kt (by omega)) (fun h => kf (by omega))
theorem sw_lcmpN_eq (x y : Nat) {off : Int} {tgt : Nat} (hd : decode me.2.1 pc = .ok (.lcmp, 1)) (hd2 : decode me.2.1 (pc + 1) = .ok (.ifCond .eq off, 3)) (ht : ((pc + 1 : Nat) : Int) + off = (tgt : Int)) (hx : x < 9223372036854775808) (hy : y < 9223372036854775808) (kt : x = y → SW G j me tgt lo st M B post) (kf : ¬ x = y → SW G j me (pc + 4) lo st M B post) : SW G j me pc lo (vl (y : Int) :: vl (x : Int) :: st) M B post :=
  sw_lcmp_eq hd hd2 ht (nrngL hx) (nrngL hy) (fun h => kt (by omega)) (fun h => kf (by omega))
theorem sw_lcmpN_ne (x y : Nat) {off : Int} {tgt : Nat} (hd : decode me.2.1 pc = .ok (.lcmp, 1)) (hd2 : decode me.2.1 (pc + 1) = .ok (.ifCond .ne off, 3)) (ht : ((pc + 1 : Nat) : Int) + off = (tgt : Int)) (hx : x < 9223372036854775808) (hy : y < 9223372036854775808) (kt : x ≠ y → SW G j me tgt lo st M B post) (kf : x = y → SW G j me (pc + 4) lo st M B post) : SW G j me pc lo (vl (y : Int) :: vl (x : Int) :: st) M B post :=
  sw_lcmp_ne hd hd2 ht (nrngL hx) (nrngL hy) (fun h => kt (by omega)) (fun h => kf (by omega))
theorem sw_lcmpN_lt (x y : Nat) {off : Int} {tgt : Nat} (hd : decode me.2.1 pc = .ok (.lcmp, 1)) (hd2 : decode me.2.1 (pc + 1) = .ok (.ifCond .lt off, 3)) (ht : ((pc + 1 : Nat) : Int) + off = (tgt : Int)) (hx : x < 9223372036854775808) (hy : y < 9223372036854775808) (kt : x < y → SW G j me tgt lo st M B post) (kf : ¬ x < y → SW G j me (pc + 4) lo st M B post) : SW G j me pc lo (vl (y : Int) :: vl (x : Int) :: st) M B post :=
  sw_lcmp_lt hd hd2 ht (nrngL hx) (nrngL hy) (fun h => kt (by omega)) (fun h => kf (by omega))
theorem sw_lcmpN_ge (x y : Nat) {off : Int} {tgt : Nat} (hd : decode me.2.1 pc = .ok (.lcmp, 1)) (hd2 : decode me.2.1 (pc + 1) = .ok (.ifCond .ge off, 3)) (ht : ((pc + 1 : Nat) : Int) + off = (tgt : Int)) (hx : x < 9223372036854775808) (hy : y < 9223372036854775808) (kt : y ≤ x → SW G j me tgt lo st M B post) (kf : ¬ y ≤ x → SW G j me (pc + 4) lo st M B post) : SW G j me pc lo (vl (y : Int) :: vl (x : Int) :: st) M B post :=
  sw_lcmp_ge hd hd2 ht (nrngL hx) (nrngL hy) (fun h => kt (by omega)) (fun h => kf (by omega))
theorem sw_lcmpN_gt (x y : Nat) {off : Int} {tgt : Nat} (hd : decode me.2.1 pc = .ok (.lcmp, 1)) (hd2 : decode me.2.1 (pc + 1) = .ok (.ifCond .gt off, 3)) (ht : ((pc + 1 : Nat) : Int) + off = (tgt : Int)) (hx : x < 9223372036854775808) (hy : y < 9223372036854775808) (kt : y < x → SW G j me tgt lo st M B post) (kf : ¬ y < x → SW G j me (pc + 4) lo st M B post) : SW G j me pc lo (vl (y : Int) :: vl (x : Int) :: st) M B post :=
  sw_lcmp_gt hd hd2 ht (nrngL hx) (nrngL hy) (fun h => kt (by omega)) (fun h => kf (by omega))
theorem sw_lcmpN_le (x y : Nat) {off : Int} {tgt : Nat} (hd : decode me.2.1 pc = .ok (.lcmp, 1)) (hd2 : decode me.2.1 (pc + 1) = .ok (.ifCond .le off, 3)) (ht : ((pc + 1 : Nat) : Int) + off = (tgt : Int)) (hx : x < 9223372036854775808) (hy : y < 9223372036854775808) (kt : x ≤ y → SW G j me tgt lo st M B post) (kf : ¬ x ≤ y → SW G j me (pc + 4) lo st M B post) : SW G j me pc lo (vl (y : Int) :: vl (x : Int) :: st) M B post :=
  sw_lcmp_le hd hd2 ht (nrngL hx) (nrngL hy) (fun h => kt (by omega)) (fun h => kf (by omega))
theorem sw_ialdN (x : Nat) {a len : Nat} {w : Int} (hd : decode me.2.1 pc = .ok (.iaload, 1)) (ha : a < M.2.1) (hsh : M.1 a = .inl (0, len)) (hl : len < 2147483648) (h1 : x < len) (hw : M.2.2 a x = w) (K : SW G j me (pc + 1) lo (vi w :: st) M B post) : SW G j me pc lo (vi (x : Int) :: vr a :: st) M B post :=
  sw_iald hd ha hsh hl (by omega) (by omega) (by rw [Int.toNat_natCast, hw]; exact K)
theorem sw_baldN (x : Nat) {a len : Nat} {w : Int} (hd : decode me.2.1 pc = .ok (.baload, 1)) (ha : a < M.2.1) (hsh : M.1 a = .inl (1, len)) (hl : len < 2147483648) (h1 : x < len) (hw : M.2.2 a x = w) (K : SW G j me (pc + 1) lo (vi w :: st) M B post) : SW G j me pc lo (vi (x : Int) :: vr a :: st) M B post :=
  sw_bald hd ha hsh hl (by omega) (by omega) (by rw [Int.toNat_natCast, hw]; exact K)
theorem sw_zaldN (x : Nat) {a len : Nat} {w : Int} (hd : decode me.2.1 pc = .ok (.baload, 1)) (ha : a < M.2.1) (hsh : M.1 a = .inl (2, len)) (hl : len < 2147483648) (h1 : x < len) (hw : M.2.2 a x = w) (K : SW G j me (pc + 1) lo (vi w :: st) M B post) : SW G j me pc lo (vi (x : Int) :: vr a :: st) M B post :=
  sw_zald hd ha hsh hl (by omega) (by omega) (by rw [Int.toNat_natCast, hw]; exact K)
theorem sw_laldN (x : Nat) {a len : Nat} {w : Int} (hd : decode me.2.1 pc = .ok (.laload, 1)) (ha : a < M.2.1) (hsh : M.1 a = .inl (3, len)) (hl : len < 2147483648) (h1 : x < len) (hw : M.2.2 a x = w) (K : SW G j me (pc + 1) lo (vl w :: st) M B post) : SW G j me pc lo (vi (x : Int) :: vr a :: st) M B post :=
  sw_lald hd ha hsh hl (by omega) (by omega) (by rw [Int.toNat_natCast, hw]; exact K)
theorem sw_iastN (x : Nat) {a len : Nat} {z : Int} (hd : decode me.2.1 pc = .ok (.iastore, 1)) (ha : a < n) (hsh : sh a = .inl (0, len)) (hl : len < 2147483648) (h1 : x < len) (K : SW G j me (pc + 1) lo st (sh, n, up2 c0 a x z) B post) : SW G j me pc lo (vi z :: vi (x : Int) :: vr a :: st) (sh, n, c0) B post :=
  sw_iast hd ha hsh hl (by omega) (by omega) (by rw [Int.toNat_natCast]; exact K)
theorem sw_lastN (x : Nat) {a len : Nat} {z : Int} (hd : decode me.2.1 pc = .ok (.lastore, 1)) (ha : a < n) (hsh : sh a = .inl (3, len)) (hl : len < 2147483648) (h1 : x < len) (K : SW G j me (pc + 1) lo st (sh, n, up2 c0 a x z) B post) : SW G j me pc lo (vl z :: vi (x : Int) :: vr a :: st) (sh, n, c0) B post :=
  sw_last hd ha hsh hl (by omega) (by omega) (by rw [Int.toNat_natCast]; exact K)
theorem sw_bastN (x : Nat) {a len : Nat} {z : Int} (hd : decode me.2.1 pc = .ok (.bastore, 1)) (ha : a < n) (hsh : sh a = .inl (1, len)) (hl : len < 2147483648) (h1 : x < len) (K : SW G j me (pc + 1) lo st (sh, n, up2 c0 a x (b8 z)) B post) : SW G j me pc lo (vi z :: vi (x : Int) :: vr a :: st) (sh, n, c0) B post :=
  sw_bast hd ha hsh hl (by omega) (by omega) (by rw [Int.toNat_natCast]; exact K)
theorem sw_zastN (x : Nat) {a len : Nat} {z : Int} (hd : decode me.2.1 pc = .ok (.bastore, 1)) (ha : a < n) (hsh : sh a = .inl (2, len)) (hl : len < 2147483648) (h1 : x < len) (hz : z = 0 ∨ z = 1) (K : SW G j me (pc + 1) lo st (sh, n, up2 c0 a x z) B post) : SW G j me pc lo (vi z :: vi (x : Int) :: vr a :: st) (sh, n, c0) B post :=
  sw_zast hd ha hsh hl (by omega) (by omega) hz (by rw [Int.toNat_natCast]; exact K)
theorem sw_getIE {ix ci k a : Nat} {fin : Bool} {ty : FieldType} {refs : List (Option Nat)} {w : Int} (hd : decode me.2.1 pc = .ok (.getfield ix, 3)) (hf : FP me.2.2.2.2 ix ci k fin ty) (ha : a < M.2.1) (hsh : M.1 a = .inr (ci, refs)) (ht : (fty ci)[k]? = some 0) (hw : M.2.2 a k = w)
    (K : SW G j me (pc + 3) lo (vi w :: st) M B post) : SW G j me pc lo (vr a :: st) M B post := sw_getI hd hf ha hsh ht (by rw [hw]; exact K)
theorem sw_getLE {ix ci k a : Nat} {fin : Bool} {ty : FieldType} {refs : List (Option Nat)} {w : Int} (hd : decode me.2.1 pc = .ok (.getfield ix, 3)) (hf : FP me.2.2.2.2 ix ci k fin ty) (ha : a < M.2.1) (hsh : M.1 a = .inr (ci, refs)) (ht : (fty ci)[k]? = some 1) (hw : M.2.2 a k = w)
    (K : SW G j me (pc + 3) lo (vl w :: st) M B post) : SW G j me pc lo (vr a :: st) M B post := sw_getL hd hf ha hsh ht (by rw [hw]; exact K)
theorem sw_i2lN (x : Nat) (hd : decode me.2.1 pc = .ok (.i2l, 1)) (hx : x < 2147483648) (K : SW G j me (pc + 1) lo (vl (x : Int) :: st) M B post) : SW G j me pc lo (vi (x : Int) :: st) M B post := sw_i2l hd (nrng hx) K
theorem SW.cg {M' : AM} (h : M = M') (K : SW G j me pc lo st M' B post) : SW G j me pc lo st M B post := h ▸ K
end RN
theorem up2_get (c : Nat → Nat → Int) (i k : Nat) (z : Int) (i' k' : Nat) : up2 c i k z i' k' = if i' = i ∧ k' = k then z else c i' k' := rfl
theorem up2_eq (c : Nat → Nat → Int) (i k : Nat) (z : Int) : up2 c i k z i k = z := by simp [up2]
theorem up2_ne {c : Nat → Nat → Int} {i k : Nat} {z : Int} {i' k' : Nat} (h : i' ≠ i ∨ k' ≠ k) : up2 c i k z i' k' = c i' k' := by
  simp only [up2]
  rw [if_neg]
  rintro ⟨h1, h2⟩
  rcases h with h | h
  · exact h h1
  · exact h h2
