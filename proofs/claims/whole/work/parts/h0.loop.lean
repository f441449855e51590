set_option maxHeartbeats 2000000 in
set_option maxRecDepth 20000 in
theorem g_law_27 {G : GG} {j nw nx gn : Nat} {g : Nat → Sh} {c : Nat → Nat → Int} {post : Option AV → AM → Prop} {BL : BB} {ii : Nat} (hG : G.2.1 < 2147483648)  (hv : (0 ≤ ((ii : Nat) : Int)) ∧ (((ii : Nat) : Int) < (G.2.1 : Int)) ∧ ((-2147483648 ≤ and32 ((G.2.2 (((ii : Nat) : Int).toNat)).toInt) 127 ∧ and32 ((G.2.2 (((ii : Nat) : Int).toNat)).toInt) 127 < 2147483648) ∧ ((and32 ((G.2.2 (((ii : Nat) : Int).toNat)).toInt) 127 = 0) → SW G (j + 40) mL_law 316 [some (vf 0), some (vr (0)), some (vr (49)), some (vi (((ii : Nat) : Int)))] [] (S nw nx g, 78 + gn, c) BL post) ∧ ((and32 ((G.2.2 (((ii : Nat) : Int).toNat)).toInt) 127 = 1) → SW G (j + 40) mL_law 379 [some (vf 0), some (vr (0)), some (vr (49)), some (vi (((ii : Nat) : Int)))] [] (S nw nx g, 78 + gn, c) BL post) ∧ ((and32 ((G.2.2 (((ii : Nat) : Int).toNat)).toInt) 127 = 2) → SW G (j + 40) mL_law 402 [some (vf 0), some (vr (0)), some (vr (49)), some (vi (((ii : Nat) : Int)))] [] (S nw nx g, 78 + gn, c) BL post) ∧ ((and32 ((G.2.2 (((ii : Nat) : Int).toNat)).toInt) 127 = 3) → SW G (j + 40) mL_law 415 [some (vf 0), some (vr (0)), some (vr (49)), some (vi (((ii : Nat) : Int)))] [] (S nw nx g, 78 + gn, c) BL post) ∧ ((and32 ((G.2.2 (((ii : Nat) : Int).toNat)).toInt) 127 = 4) → SW G (j + 40) mL_law 438 [some (vf 0), some (vr (0)), some (vr (49)), some (vi (((ii : Nat) : Int)))] [] (S nw nx g, 78 + gn, c) BL post) ∧ ((and32 ((G.2.2 (((ii : Nat) : Int).toNat)).toInt) 127 = 5) → SW G (j + 40) mL_law 461 [some (vf 0), some (vr (0)), some (vr (49)), some (vi (((ii : Nat) : Int)))] [] (S nw nx g, 78 + gn, c) BL post) ∧ ((and32 ((G.2.2 (((ii : Nat) : Int).toNat)).toInt) 127 = 6) → SW G (j + 40) mL_law 494 [some (vf 0), some (vr (0)), some (vr (49)), some (vi (((ii : Nat) : Int)))] [] (S nw nx g, 78 + gn, c) BL post) ∧ ((and32 ((G.2.2 (((ii : Nat) : Int).toNat)).toInt) 127 = 7) → SW G (j + 40) mL_law 517 [some (vf 0), some (vr (0)), some (vr (49)), some (vi (((ii : Nat) : Int)))] [] (S nw nx g, 78 + gn, c) BL post) ∧ ((and32 ((G.2.2 (((ii : Nat) : Int).toNat)).toInt) 127 = 8) → SW G (j + 40) mL_law 550 [some (vf 0), some (vr (0)), some (vr (49)), some (vi (((ii : Nat) : Int)))] [] (S nw nx g, 78 + gn, c) BL post) ∧ ((and32 ((G.2.2 (((ii : Nat) : Int).toNat)).toInt) 127 = 9) → SW G (j + 40) mL_law 563 [some (vf 0), some (vr (0)), some (vr (49)), some (vi (((ii : Nat) : Int)))] [] (S nw nx g, 78 + gn, c) BL post) ∧ ((and32 ((G.2.2 (((ii : Nat) : Int).toNat)).toInt) 127 = 10) → SW G (j + 40) mL_law 587 [some (vf 0), some (vr (0)), some (vr (49)), some (vi (((ii : Nat) : Int)))] [] (S nw nx g, 78 + gn, c) BL post) ∧ ((and32 ((G.2.2 (((ii : Nat) : Int).toNat)).toInt) 127 = 11) → SW G (j + 40) mL_law 630 [some (vf 0), some (vr (0)), some (vr (49)), some (vi (((ii : Nat) : Int)))] [] (S nw nx g, 78 + gn, c) BL post) ∧ ((and32 ((G.2.2 (((ii : Nat) : Int).toNat)).toInt) 127 = 12) → SW G (j + 40) mL_law 663 [some (vf 0), some (vr (0)), some (vr (49)), some (vi (((ii : Nat) : Int)))] [] (S nw nx g, 78 + gn, c) BL post) ∧ ((and32 ((G.2.2 (((ii : Nat) : Int).toNat)).toInt) 127 = 13) → SW G (j + 40) mL_law 686 [some (vf 0), some (vr (0)), some (vr (49)), some (vi (((ii : Nat) : Int)))] [] (S nw nx g, 78 + gn, c) BL post) ∧ ((and32 ((G.2.2 (((ii : Nat) : Int).toNat)).toInt) 127 = 14) → SW G (j + 40) mL_law 709 [some (vf 0), some (vr (0)), some (vr (49)), some (vi (((ii : Nat) : Int)))] [] (S nw nx g, 78 + gn, c) BL post) ∧ ((and32 ((G.2.2 (((ii : Nat) : Int).toNat)).toInt) 127 = 15) → SW G (j + 40) mL_law 742 [some (vf 0), some (vr (0)), some (vr (49)), some (vi (((ii : Nat) : Int)))] [] (S nw nx g, 78 + gn, c) BL post) ∧ ((and32 ((G.2.2 (((ii : Nat) : Int).toNat)).toInt) 127 = 16) → SW G (j + 40) mL_law 765 [some (vf 0), some (vr (0)), some (vr (49)), some (vi (((ii : Nat) : Int)))] [] (S nw nx g, 78 + gn, c) BL post) ∧ ((and32 ((G.2.2 (((ii : Nat) : Int).toNat)).toInt) 127 = 17) → SW G (j + 40) mL_law 798 [some (vf 0), some (vr (0)), some (vr (49)), some (vi (((ii : Nat) : Int)))] [] (S nw nx g, 78 + gn, c) BL post) ∧ ((and32 ((G.2.2 (((ii : Nat) : Int).toNat)).toInt) 127 = 18) → SW G (j + 40) mL_law 832 [some (vf 0), some (vr (0)), some (vr (49)), some (vi (((ii : Nat) : Int)))] [] (S nw nx g, 78 + gn, c) BL post) ∧ ((and32 ((G.2.2 (((ii : Nat) : Int).toNat)).toInt) 127 = 19) → SW G (j + 40) mL_law 866 [some (vf 0), some (vr (0)), some (vr (49)), some (vi (((ii : Nat) : Int)))] [] (S nw nx g, 78 + gn, c) BL post) ∧ ((and32 ((G.2.2 (((ii : Nat) : Int).toNat)).toInt) 127 = 20) → SW G (j + 40) mL_law 909 [some (vf 0), some (vr (0)), some (vr (49)), some (vi (((ii : Nat) : Int)))] [] (S nw nx g, 78 + gn, c) BL post) ∧ ((and32 ((G.2.2 (((ii : Nat) : Int).toNat)).toInt) 127 = 21) → SW G (j + 40) mL_law 943 [some (vf 0), some (vr (0)), some (vr (49)), some (vi (((ii : Nat) : Int)))] [] (S nw nx g, 78 + gn, c) BL post) ∧ ((and32 ((G.2.2 (((ii : Nat) : Int).toNat)).toInt) 127 = 22) → SW G (j + 40) mL_law 966 [some (vf 0), some (vr (0)), some (vr (49)), some (vi (((ii : Nat) : Int)))] [] (S nw nx g, 78 + gn, c) BL post) ∧ ((and32 ((G.2.2 (((ii : Nat) : Int).toNat)).toInt) 127 = 23) → SW G (j + 40) mL_law 1009 [some (vf 0), some (vr (0)), some (vr (49)), some (vi (((ii : Nat) : Int)))] [] (S nw nx g, 78 + gn, c) BL post) ∧ ((and32 ((G.2.2 (((ii : Nat) : Int).toNat)).toInt) 127 = 24) → SW G (j + 40) mL_law 1052 [some (vf 0), some (vr (0)), some (vr (49)), some (vi (((ii : Nat) : Int)))] [] (S nw nx g, 78 + gn, c) BL post) ∧ ((and32 ((G.2.2 (((ii : Nat) : Int).toNat)).toInt) 127 = 25) → SW G (j + 40) mL_law 1085 [some (vf 0), some (vr (0)), some (vr (49)), some (vi (((ii : Nat) : Int)))] [] (S nw nx g, 78 + gn, c) BL post) ∧ ((and32 ((G.2.2 (((ii : Nat) : Int).toNat)).toInt) 127 = 26) → SW G (j + 40) mL_law 1118 [some (vf 0), some (vr (0)), some (vr (49)), some (vi (((ii : Nat) : Int)))] [] (S nw nx g, 78 + gn, c) BL post) ∧ ((and32 ((G.2.2 (((ii : Nat) : Int).toNat)).toInt) 127 = 27) → SW G (j + 40) mL_law 1161 [some (vf 0), some (vr (0)), some (vr (49)), some (vi (((ii : Nat) : Int)))] [] (S nw nx g, 78 + gn, c) BL post) ∧ ((and32 ((G.2.2 (((ii : Nat) : Int).toNat)).toInt) 127 = 28) → SW G (j + 40) mL_law 1204 [some (vf 0), some (vr (0)), some (vr (49)), some (vi (((ii : Nat) : Int)))] [] (S nw nx g, 78 + gn, c) BL post) ∧ ((and32 ((G.2.2 (((ii : Nat) : Int).toNat)).toInt) 127 = 29) → SW G (j + 40) mL_law 1227 [some (vf 0), some (vr (0)), some (vr (49)), some (vi (((ii : Nat) : Int)))] [] (S nw nx g, 78 + gn, c) BL post) ∧ ((and32 ((G.2.2 (((ii : Nat) : Int).toNat)).toInt) 127 = 30) → SW G (j + 40) mL_law 1240 [some (vf 0), some (vr (0)), some (vr (49)), some (vi (((ii : Nat) : Int)))] [] (S nw nx g, 78 + gn, c) BL post) ∧ ((and32 ((G.2.2 (((ii : Nat) : Int).toNat)).toInt) 127 = 31) → SW G (j + 40) mL_law 1253 [some (vf 0), some (vr (0)), some (vr (49)), some (vi (((ii : Nat) : Int)))] [] (S nw nx g, 78 + gn, c) BL post) ∧ ((and32 ((G.2.2 (((ii : Nat) : Int).toNat)).toInt) 127 = 32) → SW G (j + 40) mL_law 1276 [some (vf 0), some (vr (0)), some (vr (49)), some (vi (((ii : Nat) : Int)))] [] (S nw nx g, 78 + gn, c) BL post) ∧ ((and32 ((G.2.2 (((ii : Nat) : Int).toNat)).toInt) 127 = 33) → SW G (j + 40) mL_law 1309 [some (vf 0), some (vr (0)), some (vr (49)), some (vi (((ii : Nat) : Int)))] [] (S nw nx g, 78 + gn, c) BL post) ∧ ((and32 ((G.2.2 (((ii : Nat) : Int).toNat)).toInt) 127 = 34) → SW G (j + 40) mL_law 1343 [some (vf 0), some (vr (0)), some (vr (49)), some (vi (((ii : Nat) : Int)))] [] (S nw nx g, 78 + gn, c) BL post) ∧ ((and32 ((G.2.2 (((ii : Nat) : Int).toNat)).toInt) 127 = 35) → SW G (j + 40) mL_law 1366 [some (vf 0), some (vr (0)), some (vr (49)), some (vi (((ii : Nat) : Int)))] [] (S nw nx g, 78 + gn, c) BL post) ∧ ((and32 ((G.2.2 (((ii : Nat) : Int).toNat)).toInt) 127 = 36) → SW G (j + 40) mL_law 1409 [some (vf 0), some (vr (0)), some (vr (49)), some (vi (((ii : Nat) : Int)))] [] (S nw nx g, 78 + gn, c) BL post) ∧ ((and32 ((G.2.2 (((ii : Nat) : Int).toNat)).toInt) 127 = 37) → SW G (j + 40) mL_law 1452 [some (vf 0), some (vr (0)), some (vr (49)), some (vi (((ii : Nat) : Int)))] [] (S nw nx g, 78 + gn, c) BL post) ∧ ((and32 ((G.2.2 (((ii : Nat) : Int).toNat)).toInt) 127 = 38) → SW G (j + 40) mL_law 1485 [some (vf 0), some (vr (0)), some (vr (49)), some (vi (((ii : Nat) : Int)))] [] (S nw nx g, 78 + gn, c) BL post) ∧ ((and32 ((G.2.2 (((ii : Nat) : Int).toNat)).toInt) 127 = 39) → SW G (j + 40) mL_law 1508 [some (vf 0), some (vr (0)), some (vr (49)), some (vi (((ii : Nat) : Int)))] [] (S nw nx g, 78 + gn, c) BL post) ∧ ((and32 ((G.2.2 (((ii : Nat) : Int).toNat)).toInt) 127 = 40) → SW G (j + 40) mL_law 1542 [some (vf 0), some (vr (0)), some (vr (49)), some (vi (((ii : Nat) : Int)))] [] (S nw nx g, 78 + gn, c) BL post) ∧ ((and32 ((G.2.2 (((ii : Nat) : Int).toNat)).toInt) 127 = 41) → SW G (j + 40) mL_law 1595 [some (vf 0), some (vr (0)), some (vr (49)), some (vi (((ii : Nat) : Int)))] [] (S nw nx g, 78 + gn, c) BL post) ∧ ((and32 ((G.2.2 (((ii : Nat) : Int).toNat)).toInt) 127 = 42) → SW G (j + 40) mL_law 1638 [some (vf 0), some (vr (0)), some (vr (49)), some (vi (((ii : Nat) : Int)))] [] (S nw nx g, 78 + gn, c) BL post) ∧ ((and32 ((G.2.2 (((ii : Nat) : Int).toNat)).toInt) 127 = 43) → SW G (j + 40) mL_law 1681 [some (vf 0), some (vr (0)), some (vr (49)), some (vi (((ii : Nat) : Int)))] [] (S nw nx g, 78 + gn, c) BL post) ∧ ((and32 ((G.2.2 (((ii : Nat) : Int).toNat)).toInt) 127 = 44) → SW G (j + 40) mL_law 1724 [some (vf 0), some (vr (0)), some (vr (49)), some (vi (((ii : Nat) : Int)))] [] (S nw nx g, 78 + gn, c) BL post) ∧ ((and32 ((G.2.2 (((ii : Nat) : Int).toNat)).toInt) 127 = 45) → SW G (j + 40) mL_law 1767 [some (vf 0), some (vr (0)), some (vr (49)), some (vi (((ii : Nat) : Int)))] [] (S nw nx g, 78 + gn, c) BL post) ∧ ((and32 ((G.2.2 (((ii : Nat) : Int).toNat)).toInt) 127 = 46) → SW G (j + 40) mL_law 1791 [some (vf 0), some (vr (0)), some (vr (49)), some (vi (((ii : Nat) : Int)))] [] (S nw nx g, 78 + gn, c) BL post) ∧ ((and32 ((G.2.2 (((ii : Nat) : Int).toNat)).toInt) 127 = 47) → SW G (j + 40) mL_law 1814 [some (vf 0), some (vr (0)), some (vr (49)), some (vi (((ii : Nat) : Int)))] [] (S nw nx g, 78 + gn, c) BL post) ∧ ((and32 ((G.2.2 (((ii : Nat) : Int).toNat)).toInt) 127 = 48) → SW G (j + 40) mL_law 1837 [some (vf 0), some (vr (0)), some (vr (49)), some (vi (((ii : Nat) : Int)))] [] (S nw nx g, 78 + gn, c) BL post) ∧ ((and32 ((G.2.2 (((ii : Nat) : Int).toNat)).toInt) 127 = 49) → SW G (j + 40) mL_law 1860 [some (vf 0), some (vr (0)), some (vr (49)), some (vi (((ii : Nat) : Int)))] [] (S nw nx g, 78 + gn, c) BL post) ∧ ((and32 ((G.2.2 (((ii : Nat) : Int).toNat)).toInt) 127 = 50) → SW G (j + 40) mL_law 1893 [some (vf 0), some (vr (0)), some (vr (49)), some (vi (((ii : Nat) : Int)))] [] (S nw nx g, 78 + gn, c) BL post) ∧ ((and32 ((G.2.2 (((ii : Nat) : Int).toNat)).toInt) 127 = 51) → SW G (j + 40) mL_law 1946 [some (vf 0), some (vr (0)), some (vr (49)), some (vi (((ii : Nat) : Int)))] [] (S nw nx g, 78 + gn, c) BL post) ∧ ((and32 ((G.2.2 (((ii : Nat) : Int).toNat)).toInt) 127 = 52) → SW G (j + 40) mL_law 1979 [some (vf 0), some (vr (0)), some (vr (49)), some (vi (((ii : Nat) : Int)))] [] (S nw nx g, 78 + gn, c) BL post) ∧ ((and32 ((G.2.2 (((ii : Nat) : Int).toNat)).toInt) 127 = 53) → SW G (j + 40) mL_law 2023 [some (vf 0), some (vr (0)), some (vr (49)), some (vi (((ii : Nat) : Int)))] [] (S nw nx g, 78 + gn, c) BL post) ∧ ((and32 ((G.2.2 (((ii : Nat) : Int).toNat)).toInt) 127 = 54) → SW G (j + 40) mL_law 2056 [some (vf 0), some (vr (0)), some (vr (49)), some (vi (((ii : Nat) : Int)))] [] (S nw nx g, 78 + gn, c) BL post) ∧ ((and32 ((G.2.2 (((ii : Nat) : Int).toNat)).toInt) 127 = 55) → SW G (j + 40) mL_law 2089 [some (vf 0), some (vr (0)), some (vr (49)), some (vi (((ii : Nat) : Int)))] [] (S nw nx g, 78 + gn, c) BL post) ∧ ((and32 ((G.2.2 (((ii : Nat) : Int).toNat)).toInt) 127 = 56) → SW G (j + 40) mL_law 2112 [some (vf 0), some (vr (0)), some (vr (49)), some (vi (((ii : Nat) : Int)))] [] (S nw nx g, 78 + gn, c) BL post) ∧ ((and32 ((G.2.2 (((ii : Nat) : Int).toNat)).toInt) 127 = 57) → SW G (j + 40) mL_law 2135 [some (vf 0), some (vr (0)), some (vr (49)), some (vi (((ii : Nat) : Int)))] [] (S nw nx g, 78 + gn, c) BL post) ∧ ((and32 ((G.2.2 (((ii : Nat) : Int).toNat)).toInt) 127 = 58) → SW G (j + 40) mL_law 2149 [some (vf 0), some (vr (0)), some (vr (49)), some (vi (((ii : Nat) : Int)))] [] (S nw nx g, 78 + gn, c) BL post) ∧ ((and32 ((G.2.2 (((ii : Nat) : Int).toNat)).toInt) 127 = 59) → SW G (j + 40) mL_law 2163 [some (vf 0), some (vr (0)), some (vr (49)), some (vi (((ii : Nat) : Int)))] [] (S nw nx g, 78 + gn, c) BL post) ∧ ((and32 ((G.2.2 (((ii : Nat) : Int).toNat)).toInt) 127 = 60) → SW G (j + 40) mL_law 2177 [some (vf 0), some (vr (0)), some (vr (49)), some (vi (((ii : Nat) : Int)))] [] (S nw nx g, 78 + gn, c) BL post) ∧ ((and32 ((G.2.2 (((ii : Nat) : Int).toNat)).toInt) 127 = 61) → SW G (j + 40) mL_law 2200 [some (vf 0), some (vr (0)), some (vr (49)), some (vi (((ii : Nat) : Int)))] [] (S nw nx g, 78 + gn, c) BL post) ∧ ((and32 ((G.2.2 (((ii : Nat) : Int).toNat)).toInt) 127 = 62) → SW G (j + 40) mL_law 2213 [some (vf 0), some (vr (0)), some (vr (49)), some (vi (((ii : Nat) : Int)))] [] (S nw nx g, 78 + gn, c) BL post) ∧ ((and32 ((G.2.2 (((ii : Nat) : Int).toNat)).toInt) 127 = 63) → SW G (j + 40) mL_law 2236 [some (vf 0), some (vr (0)), some (vr (49)), some (vi (((ii : Nat) : Int)))] [] (S nw nx g, 78 + gn, c) BL post) ∧ ((and32 ((G.2.2 (((ii : Nat) : Int).toNat)).toInt) 127 = 64) → SW G (j + 40) mL_law 2259 [some (vf 0), some (vr (0)), some (vr (49)), some (vi (((ii : Nat) : Int)))] [] (S nw nx g, 78 + gn, c) BL post) ∧ ((and32 ((G.2.2 (((ii : Nat) : Int).toNat)).toInt) 127 = 65) → SW G (j + 40) mL_law 2282 [some (vf 0), some (vr (0)), some (vr (49)), some (vi (((ii : Nat) : Int)))] [] (S nw nx g, 78 + gn, c) BL post) ∧ ((and32 ((G.2.2 (((ii : Nat) : Int).toNat)).toInt) 127 = 66) → SW G (j + 40) mL_law 2295 [some (vf 0), some (vr (0)), some (vr (49)), some (vi (((ii : Nat) : Int)))] [] (S nw nx g, 78 + gn, c) BL post) ∧ ((and32 ((G.2.2 (((ii : Nat) : Int).toNat)).toInt) 127 < 0 ∨ 66 < and32 ((G.2.2 (((ii : Nat) : Int).toNat)).toInt) 127) → SW G (j + 40) mL_law 2308 [some (vf 0), some (vr (0)), some (vr (49)), some (vi (((ii : Nat) : Int)))] [] (S nw nx g, 78 + gn, c) BL post))) :
    SW G (j + 40) mL_law 27 [some (vf 0), some (vr (0)), some (vr (49)), some (vi (((ii : Nat) : Int)))] [] (S nw nx g, 78 + gn, c) BL post := by
  refine sw_aload_nf (dL_law_0.at 16 rfl) rfl rfl ?_
  refine sw_iload_n (dL_law_0.at 17 rfl) rfl rfl ?_
  refine sw_sld (dL_law_0.at 18 rfl) hG hv.1 hv.2.1 ?_
  replace hv := hv.2.2
  refine sw_bipush (dL_law_0.at 19 rfl) (by decide) ?_
  refine sw_iand (dL_law_0.at 20 rfl) ?_
  by_cases q : and32 ((G.2.2 (((ii : Nat) : Int).toNat)).toInt) 127 = 0
  · refine sw_tsIn (tgt := 316) (dL_law_0.at 21 rfl) hv.1 (by omega) (by omega) (by rw [q]; rfl) (by decide) ?_
    replace hv := hv.2.1 q
    exact hv
  · have q5_0 := q
    clear q
    by_cases q : and32 ((G.2.2 (((ii : Nat) : Int).toNat)).toInt) 127 = 1
    · refine sw_tsIn (tgt := 379) (dL_law_0.at 21 rfl) hv.1 (by omega) (by omega) (by rw [q]; rfl) (by decide) ?_
      replace hv := hv.2.2.1 q
      exact hv
    · have q5_1 := q
      clear q
      by_cases q : and32 ((G.2.2 (((ii : Nat) : Int).toNat)).toInt) 127 = 2
      · refine sw_tsIn (tgt := 402) (dL_law_0.at 21 rfl) hv.1 (by omega) (by omega) (by rw [q]; rfl) (by decide) ?_
        replace hv := hv.2.2.2.1 q
        exact hv
      · have q5_2 := q
        clear q
        by_cases q : and32 ((G.2.2 (((ii : Nat) : Int).toNat)).toInt) 127 = 3
        · refine sw_tsIn (tgt := 415) (dL_law_0.at 21 rfl) hv.1 (by omega) (by omega) (by rw [q]; rfl) (by decide) ?_
          replace hv := hv.2.2.2.2.1 q
          exact hv
        · have q5_3 := q
          clear q
          by_cases q : and32 ((G.2.2 (((ii : Nat) : Int).toNat)).toInt) 127 = 4
          · refine sw_tsIn (tgt := 438) (dL_law_0.at 21 rfl) hv.1 (by omega) (by omega) (by rw [q]; rfl) (by decide) ?_
            replace hv := hv.2.2.2.2.2.1 q
            exact hv
          · have q5_4 := q
            clear q
            by_cases q : and32 ((G.2.2 (((ii : Nat) : Int).toNat)).toInt) 127 = 5
            · refine sw_tsIn (tgt := 461) (dL_law_0.at 21 rfl) hv.1 (by omega) (by omega) (by rw [q]; rfl) (by decide) ?_
              replace hv := hv.2.2.2.2.2.2.1 q
              exact hv
            · have q5_5 := q
              clear q
              by_cases q : and32 ((G.2.2 (((ii : Nat) : Int).toNat)).toInt) 127 = 6
              · refine sw_tsIn (tgt := 494) (dL_law_0.at 21 rfl) hv.1 (by omega) (by omega) (by rw [q]; rfl) (by decide) ?_
                replace hv := hv.2.2.2.2.2.2.2.1 q
                exact hv
              · have q5_6 := q
                clear q
                by_cases q : and32 ((G.2.2 (((ii : Nat) : Int).toNat)).toInt) 127 = 7
                · refine sw_tsIn (tgt := 517) (dL_law_0.at 21 rfl) hv.1 (by omega) (by omega) (by rw [q]; rfl) (by decide) ?_
                  replace hv := hv.2.2.2.2.2.2.2.2.1 q
                  exact hv
                · have q5_7 := q
                  clear q
                  by_cases q : and32 ((G.2.2 (((ii : Nat) : Int).toNat)).toInt) 127 = 8
                  · refine sw_tsIn (tgt := 550) (dL_law_0.at 21 rfl) hv.1 (by omega) (by omega) (by rw [q]; rfl) (by decide) ?_
                    replace hv := hv.2.2.2.2.2.2.2.2.2.1 q
                    exact hv
                  · have q5_8 := q
                    clear q
                    by_cases q : and32 ((G.2.2 (((ii : Nat) : Int).toNat)).toInt) 127 = 9
                    · refine sw_tsIn (tgt := 563) (dL_law_0.at 21 rfl) hv.1 (by omega) (by omega) (by rw [q]; rfl) (by decide) ?_
                      replace hv := hv.2.2.2.2.2.2.2.2.2.2.1 q
                      exact hv
                    · have q5_9 := q
                      clear q
                      by_cases q : and32 ((G.2.2 (((ii : Nat) : Int).toNat)).toInt) 127 = 10
                      · refine sw_tsIn (tgt := 587) (dL_law_0.at 21 rfl) hv.1 (by omega) (by omega) (by rw [q]; rfl) (by decide) ?_
                        replace hv := hv.2.2.2.2.2.2.2.2.2.2.2.1 q
                        exact hv
                      · have q5_10 := q
                        clear q
                        by_cases q : and32 ((G.2.2 (((ii : Nat) : Int).toNat)).toInt) 127 = 11
                        · refine sw_tsIn (tgt := 630) (dL_law_0.at 21 rfl) hv.1 (by omega) (by omega) (by rw [q]; rfl) (by decide) ?_
                          replace hv := hv.2.2.2.2.2.2.2.2.2.2.2.2.1 q
                          exact hv
                        · have q5_11 := q
                          clear q
                          by_cases q : and32 ((G.2.2 (((ii : Nat) : Int).toNat)).toInt) 127 = 12
                          · refine sw_tsIn (tgt := 663) (dL_law_0.at 21 rfl) hv.1 (by omega) (by omega) (by rw [q]; rfl) (by decide) ?_
                            replace hv := hv.2.2.2.2.2.2.2.2.2.2.2.2.2.1 q
                            exact hv
                          · have q5_12 := q
                            clear q
                            by_cases q : and32 ((G.2.2 (((ii : Nat) : Int).toNat)).toInt) 127 = 13
                            · refine sw_tsIn (tgt := 686) (dL_law_0.at 21 rfl) hv.1 (by omega) (by omega) (by rw [q]; rfl) (by decide) ?_
                              replace hv := hv.2.2.2.2.2.2.2.2.2.2.2.2.2.2.1 q
                              exact hv
                            · have q5_13 := q
                              clear q
                              by_cases q : and32 ((G.2.2 (((ii : Nat) : Int).toNat)).toInt) 127 = 14
                              · refine sw_tsIn (tgt := 709) (dL_law_0.at 21 rfl) hv.1 (by omega) (by omega) (by rw [q]; rfl) (by decide) ?_
                                replace hv := hv.2.2.2.2.2.2.2.2.2.2.2.2.2.2.2.1 q
                                exact hv
                              · have q5_14 := q
                                clear q
                                by_cases q : and32 ((G.2.2 (((ii : Nat) : Int).toNat)).toInt) 127 = 15
                                · refine sw_tsIn (tgt := 742) (dL_law_0.at 21 rfl) hv.1 (by omega) (by omega) (by rw [q]; rfl) (by decide) ?_
                                  replace hv := hv.2.2.2.2.2.2.2.2.2.2.2.2.2.2.2.2.1 q
                                  exact hv
                                · have q5_15 := q
                                  clear q
                                  by_cases q : and32 ((G.2.2 (((ii : Nat) : Int).toNat)).toInt) 127 = 16
                                  · refine sw_tsIn (tgt := 765) (dL_law_0.at 21 rfl) hv.1 (by omega) (by omega) (by rw [q]; rfl) (by decide) ?_
                                    replace hv := hv.2.2.2.2.2.2.2.2.2.2.2.2.2.2.2.2.2.1 q
                                    exact hv
                                  · have q5_16 := q
                                    clear q
                                    by_cases q : and32 ((G.2.2 (((ii : Nat) : Int).toNat)).toInt) 127 = 17
                                    · refine sw_tsIn (tgt := 798) (dL_law_0.at 21 rfl) hv.1 (by omega) (by omega) (by rw [q]; rfl) (by decide) ?_
                                      replace hv := hv.2.2.2.2.2.2.2.2.2.2.2.2.2.2.2.2.2.2.1 q
                                      exact hv
                                    · have q5_17 := q
                                      clear q
                                      by_cases q : and32 ((G.2.2 (((ii : Nat) : Int).toNat)).toInt) 127 = 18
                                      · refine sw_tsIn (tgt := 832) (dL_law_0.at 21 rfl) hv.1 (by omega) (by omega) (by rw [q]; rfl) (by decide) ?_
                                        replace hv := hv.2.2.2.2.2.2.2.2.2.2.2.2.2.2.2.2.2.2.2.1 q
                                        exact hv
                                      · have q5_18 := q
                                        clear q
                                        by_cases q : and32 ((G.2.2 (((ii : Nat) : Int).toNat)).toInt) 127 = 19
                                        · refine sw_tsIn (tgt := 866) (dL_law_0.at 21 rfl) hv.1 (by omega) (by omega) (by rw [q]; rfl) (by decide) ?_
                                          replace hv := hv.2.2.2.2.2.2.2.2.2.2.2.2.2.2.2.2.2.2.2.2.1 q
                                          exact hv
                                        · have q5_19 := q
                                          clear q
                                          by_cases q : and32 ((G.2.2 (((ii : Nat) : Int).toNat)).toInt) 127 = 20
                                          · refine sw_tsIn (tgt := 909) (dL_law_0.at 21 rfl) hv.1 (by omega) (by omega) (by rw [q]; rfl) (by decide) ?_
                                            replace hv := hv.2.2.2.2.2.2.2.2.2.2.2.2.2.2.2.2.2.2.2.2.2.1 q
                                            exact hv
                                          · have q5_20 := q
                                            clear q
                                            by_cases q : and32 ((G.2.2 (((ii : Nat) : Int).toNat)).toInt) 127 = 21
                                            · refine sw_tsIn (tgt := 943) (dL_law_0.at 21 rfl) hv.1 (by omega) (by omega) (by rw [q]; rfl) (by decide) ?_
                                              replace hv := hv.2.2.2.2.2.2.2.2.2.2.2.2.2.2.2.2.2.2.2.2.2.2.1 q
                                              exact hv
                                            · have q5_21 := q
                                              clear q
                                              by_cases q : and32 ((G.2.2 (((ii : Nat) : Int).toNat)).toInt) 127 = 22
                                              · refine sw_tsIn (tgt := 966) (dL_law_0.at 21 rfl) hv.1 (by omega) (by omega) (by rw [q]; rfl) (by decide) ?_
                                                replace hv := hv.2.2.2.2.2.2.2.2.2.2.2.2.2.2.2.2.2.2.2.2.2.2.2.1 q
                                                exact hv
                                              · have q5_22 := q
                                                clear q
                                                by_cases q : and32 ((G.2.2 (((ii : Nat) : Int).toNat)).toInt) 127 = 23
                                                · refine sw_tsIn (tgt := 1009) (dL_law_0.at 21 rfl) hv.1 (by omega) (by omega) (by rw [q]; rfl) (by decide) ?_
                                                  replace hv := hv.2.2.2.2.2.2.2.2.2.2.2.2.2.2.2.2.2.2.2.2.2.2.2.2.1 q
                                                  exact hv
                                                · have q5_23 := q
                                                  clear q
                                                  by_cases q : and32 ((G.2.2 (((ii : Nat) : Int).toNat)).toInt) 127 = 24
                                                  · refine sw_tsIn (tgt := 1052) (dL_law_0.at 21 rfl) hv.1 (by omega) (by omega) (by rw [q]; rfl) (by decide) ?_
                                                    replace hv := hv.2.2.2.2.2.2.2.2.2.2.2.2.2.2.2.2.2.2.2.2.2.2.2.2.2.1 q
                                                    exact hv
                                                  · have q5_24 := q
                                                    clear q
                                                    by_cases q : and32 ((G.2.2 (((ii : Nat) : Int).toNat)).toInt) 127 = 25
                                                    · refine sw_tsIn (tgt := 1085) (dL_law_0.at 21 rfl) hv.1 (by omega) (by omega) (by rw [q]; rfl) (by decide) ?_
                                                      replace hv := hv.2.2.2.2.2.2.2.2.2.2.2.2.2.2.2.2.2.2.2.2.2.2.2.2.2.2.1 q
                                                      exact hv
                                                    · have q5_25 := q
                                                      clear q
                                                      by_cases q : and32 ((G.2.2 (((ii : Nat) : Int).toNat)).toInt) 127 = 26
                                                      · refine sw_tsIn (tgt := 1118) (dL_law_0.at 21 rfl) hv.1 (by omega) (by omega) (by rw [q]; rfl) (by decide) ?_
                                                        replace hv := hv.2.2.2.2.2.2.2.2.2.2.2.2.2.2.2.2.2.2.2.2.2.2.2.2.2.2.2.1 q
                                                        exact hv
                                                      · have q5_26 := q
                                                        clear q
                                                        by_cases q : and32 ((G.2.2 (((ii : Nat) : Int).toNat)).toInt) 127 = 27
                                                        · refine sw_tsIn (tgt := 1161) (dL_law_0.at 21 rfl) hv.1 (by omega) (by omega) (by rw [q]; rfl) (by decide) ?_
                                                          replace hv := hv.2.2.2.2.2.2.2.2.2.2.2.2.2.2.2.2.2.2.2.2.2.2.2.2.2.2.2.2.1 q
                                                          exact hv
                                                        · have q5_27 := q
                                                          clear q
                                                          by_cases q : and32 ((G.2.2 (((ii : Nat) : Int).toNat)).toInt) 127 = 28
                                                          · refine sw_tsIn (tgt := 1204) (dL_law_0.at 21 rfl) hv.1 (by omega) (by omega) (by rw [q]; rfl) (by decide) ?_
                                                            replace hv := hv.2.2.2.2.2.2.2.2.2.2.2.2.2.2.2.2.2.2.2.2.2.2.2.2.2.2.2.2.2.1 q
                                                            exact hv
                                                          · have q5_28 := q
                                                            clear q
                                                            by_cases q : and32 ((G.2.2 (((ii : Nat) : Int).toNat)).toInt) 127 = 29
                                                            · refine sw_tsIn (tgt := 1227) (dL_law_0.at 21 rfl) hv.1 (by omega) (by omega) (by rw [q]; rfl) (by decide) ?_
                                                              replace hv := hv.2.2.2.2.2.2.2.2.2.2.2.2.2.2.2.2.2.2.2.2.2.2.2.2.2.2.2.2.2.2.1 q
                                                              exact hv
                                                            · have q5_29 := q
                                                              clear q
                                                              by_cases q : and32 ((G.2.2 (((ii : Nat) : Int).toNat)).toInt) 127 = 30
                                                              · refine sw_tsIn (tgt := 1240) (dL_law_0.at 21 rfl) hv.1 (by omega) (by omega) (by rw [q]; rfl) (by decide) ?_
                                                                replace hv := hv.2.2.2.2.2.2.2.2.2.2.2.2.2.2.2.2.2.2.2.2.2.2.2.2.2.2.2.2.2.2.2.1 q
                                                                exact hv
                                                              · have q5_30 := q
                                                                clear q
                                                                by_cases q : and32 ((G.2.2 (((ii : Nat) : Int).toNat)).toInt) 127 = 31
                                                                · refine sw_tsIn (tgt := 1253) (dL_law_0.at 21 rfl) hv.1 (by omega) (by omega) (by rw [q]; rfl) (by decide) ?_
                                                                  replace hv := hv.2.2.2.2.2.2.2.2.2.2.2.2.2.2.2.2.2.2.2.2.2.2.2.2.2.2.2.2.2.2.2.2.1 q
                                                                  exact hv
                                                                · have q5_31 := q
                                                                  clear q
                                                                  by_cases q : and32 ((G.2.2 (((ii : Nat) : Int).toNat)).toInt) 127 = 32
                                                                  · refine sw_tsIn (tgt := 1276) (dL_law_0.at 21 rfl) hv.1 (by omega) (by omega) (by rw [q]; rfl) (by decide) ?_
                                                                    replace hv := hv.2.2.2.2.2.2.2.2.2.2.2.2.2.2.2.2.2.2.2.2.2.2.2.2.2.2.2.2.2.2.2.2.2.1 q
                                                                    exact hv
                                                                  · have q5_32 := q
                                                                    clear q
                                                                    by_cases q : and32 ((G.2.2 (((ii : Nat) : Int).toNat)).toInt) 127 = 33
                                                                    · refine sw_tsIn (tgt := 1309) (dL_law_0.at 21 rfl) hv.1 (by omega) (by omega) (by rw [q]; rfl) (by decide) ?_
                                                                      replace hv := hv.2.2.2.2.2.2.2.2.2.2.2.2.2.2.2.2.2.2.2.2.2.2.2.2.2.2.2.2.2.2.2.2.2.2.1 q
                                                                      exact hv
                                                                    · have q5_33 := q
                                                                      clear q
                                                                      by_cases q : and32 ((G.2.2 (((ii : Nat) : Int).toNat)).toInt) 127 = 34
                                                                      · refine sw_tsIn (tgt := 1343) (dL_law_0.at 21 rfl) hv.1 (by omega) (by omega) (by rw [q]; rfl) (by decide) ?_
                                                                        replace hv := hv.2.2.2.2.2.2.2.2.2.2.2.2.2.2.2.2.2.2.2.2.2.2.2.2.2.2.2.2.2.2.2.2.2.2.2.1 q
                                                                        exact hv
                                                                      · have q5_34 := q
                                                                        clear q
                                                                        by_cases q : and32 ((G.2.2 (((ii : Nat) : Int).toNat)).toInt) 127 = 35
                                                                        · refine sw_tsIn (tgt := 1366) (dL_law_0.at 21 rfl) hv.1 (by omega) (by omega) (by rw [q]; rfl) (by decide) ?_
                                                                          replace hv := hv.2.2.2.2.2.2.2.2.2.2.2.2.2.2.2.2.2.2.2.2.2.2.2.2.2.2.2.2.2.2.2.2.2.2.2.2.1 q
                                                                          exact hv
                                                                        · have q5_35 := q
                                                                          clear q
                                                                          by_cases q : and32 ((G.2.2 (((ii : Nat) : Int).toNat)).toInt) 127 = 36
                                                                          · refine sw_tsIn (tgt := 1409) (dL_law_0.at 21 rfl) hv.1 (by omega) (by omega) (by rw [q]; rfl) (by decide) ?_
                                                                            replace hv := hv.2.2.2.2.2.2.2.2.2.2.2.2.2.2.2.2.2.2.2.2.2.2.2.2.2.2.2.2.2.2.2.2.2.2.2.2.2.1 q
                                                                            exact hv
                                                                          · have q5_36 := q
                                                                            clear q
                                                                            by_cases q : and32 ((G.2.2 (((ii : Nat) : Int).toNat)).toInt) 127 = 37
                                                                            · refine sw_tsIn (tgt := 1452) (dL_law_0.at 21 rfl) hv.1 (by omega) (by omega) (by rw [q]; rfl) (by decide) ?_
                                                                              replace hv := hv.2.2.2.2.2.2.2.2.2.2.2.2.2.2.2.2.2.2.2.2.2.2.2.2.2.2.2.2.2.2.2.2.2.2.2.2.2.2.1 q
                                                                              exact hv
                                                                            · have q5_37 := q
                                                                              clear q
                                                                              by_cases q : and32 ((G.2.2 (((ii : Nat) : Int).toNat)).toInt) 127 = 38
                                                                              · refine sw_tsIn (tgt := 1485) (dL_law_0.at 21 rfl) hv.1 (by omega) (by omega) (by rw [q]; rfl) (by decide) ?_
                                                                                replace hv := hv.2.2.2.2.2.2.2.2.2.2.2.2.2.2.2.2.2.2.2.2.2.2.2.2.2.2.2.2.2.2.2.2.2.2.2.2.2.2.2.1 q
                                                                                exact hv
                                                                              · have q5_38 := q
                                                                                clear q
                                                                                by_cases q : and32 ((G.2.2 (((ii : Nat) : Int).toNat)).toInt) 127 = 39
                                                                                · refine sw_tsIn (tgt := 1508) (dL_law_0.at 21 rfl) hv.1 (by omega) (by omega) (by rw [q]; rfl) (by decide) ?_
                                                                                  replace hv := hv.2.2.2.2.2.2.2.2.2.2.2.2.2.2.2.2.2.2.2.2.2.2.2.2.2.2.2.2.2.2.2.2.2.2.2.2.2.2.2.2.1 q
                                                                                  exact hv
                                                                                · have q5_39 := q
                                                                                  clear q
                                                                                  by_cases q : and32 ((G.2.2 (((ii : Nat) : Int).toNat)).toInt) 127 = 40
                                                                                  · refine sw_tsIn (tgt := 1542) (dL_law_0.at 21 rfl) hv.1 (by omega) (by omega) (by rw [q]; rfl) (by decide) ?_
                                                                                    replace hv := hv.2.2.2.2.2.2.2.2.2.2.2.2.2.2.2.2.2.2.2.2.2.2.2.2.2.2.2.2.2.2.2.2.2.2.2.2.2.2.2.2.2.1 q
                                                                                    exact hv
                                                                                  · have q5_40 := q
                                                                                    clear q
                                                                                    by_cases q : and32 ((G.2.2 (((ii : Nat) : Int).toNat)).toInt) 127 = 41
                                                                                    · refine sw_tsIn (tgt := 1595) (dL_law_0.at 21 rfl) hv.1 (by omega) (by omega) (by rw [q]; rfl) (by decide) ?_
                                                                                      replace hv := hv.2.2.2.2.2.2.2.2.2.2.2.2.2.2.2.2.2.2.2.2.2.2.2.2.2.2.2.2.2.2.2.2.2.2.2.2.2.2.2.2.2.2.1 q
                                                                                      exact hv
                                                                                    · have q5_41 := q
                                                                                      clear q
                                                                                      by_cases q : and32 ((G.2.2 (((ii : Nat) : Int).toNat)).toInt) 127 = 42
                                                                                      · refine sw_tsIn (tgt := 1638) (dL_law_0.at 21 rfl) hv.1 (by omega) (by omega) (by rw [q]; rfl) (by decide) ?_
                                                                                        replace hv := hv.2.2.2.2.2.2.2.2.2.2.2.2.2.2.2.2.2.2.2.2.2.2.2.2.2.2.2.2.2.2.2.2.2.2.2.2.2.2.2.2.2.2.2.1 q
                                                                                        exact hv
                                                                                      · have q5_42 := q
                                                                                        clear q
                                                                                        by_cases q : and32 ((G.2.2 (((ii : Nat) : Int).toNat)).toInt) 127 = 43
                                                                                        · refine sw_tsIn (tgt := 1681) (dL_law_0.at 21 rfl) hv.1 (by omega) (by omega) (by rw [q]; rfl) (by decide) ?_
                                                                                          replace hv := hv.2.2.2.2.2.2.2.2.2.2.2.2.2.2.2.2.2.2.2.2.2.2.2.2.2.2.2.2.2.2.2.2.2.2.2.2.2.2.2.2.2.2.2.2.1 q
                                                                                          exact hv
                                                                                        · have q5_43 := q
                                                                                          clear q
                                                                                          by_cases q : and32 ((G.2.2 (((ii : Nat) : Int).toNat)).toInt) 127 = 44
                                                                                          · refine sw_tsIn (tgt := 1724) (dL_law_0.at 21 rfl) hv.1 (by omega) (by omega) (by rw [q]; rfl) (by decide) ?_
                                                                                            replace hv := hv.2.2.2.2.2.2.2.2.2.2.2.2.2.2.2.2.2.2.2.2.2.2.2.2.2.2.2.2.2.2.2.2.2.2.2.2.2.2.2.2.2.2.2.2.2.1 q
                                                                                            exact hv
                                                                                          · have q5_44 := q
                                                                                            clear q
                                                                                            by_cases q : and32 ((G.2.2 (((ii : Nat) : Int).toNat)).toInt) 127 = 45
                                                                                            · refine sw_tsIn (tgt := 1767) (dL_law_0.at 21 rfl) hv.1 (by omega) (by omega) (by rw [q]; rfl) (by decide) ?_
                                                                                              replace hv := hv.2.2.2.2.2.2.2.2.2.2.2.2.2.2.2.2.2.2.2.2.2.2.2.2.2.2.2.2.2.2.2.2.2.2.2.2.2.2.2.2.2.2.2.2.2.2.1 q
                                                                                              exact hv
                                                                                            · have q5_45 := q
                                                                                              clear q
                                                                                              by_cases q : and32 ((G.2.2 (((ii : Nat) : Int).toNat)).toInt) 127 = 46
                                                                                              · refine sw_tsIn (tgt := 1791) (dL_law_0.at 21 rfl) hv.1 (by omega) (by omega) (by rw [q]; rfl) (by decide) ?_
                                                                                                replace hv := hv.2.2.2.2.2.2.2.2.2.2.2.2.2.2.2.2.2.2.2.2.2.2.2.2.2.2.2.2.2.2.2.2.2.2.2.2.2.2.2.2.2.2.2.2.2.2.2.1 q
                                                                                                exact hv
                                                                                              · have q5_46 := q
                                                                                                clear q
                                                                                                by_cases q : and32 ((G.2.2 (((ii : Nat) : Int).toNat)).toInt) 127 = 47
                                                                                                · refine sw_tsIn (tgt := 1814) (dL_law_0.at 21 rfl) hv.1 (by omega) (by omega) (by rw [q]; rfl) (by decide) ?_
                                                                                                  replace hv := hv.2.2.2.2.2.2.2.2.2.2.2.2.2.2.2.2.2.2.2.2.2.2.2.2.2.2.2.2.2.2.2.2.2.2.2.2.2.2.2.2.2.2.2.2.2.2.2.2.1 q
                                                                                                  exact hv
                                                                                                · have q5_47 := q
                                                                                                  clear q
                                                                                                  by_cases q : and32 ((G.2.2 (((ii : Nat) : Int).toNat)).toInt) 127 = 48
                                                                                                  · refine sw_tsIn (tgt := 1837) (dL_law_0.at 21 rfl) hv.1 (by omega) (by omega) (by rw [q]; rfl) (by decide) ?_
                                                                                                    replace hv := hv.2.2.2.2.2.2.2.2.2.2.2.2.2.2.2.2.2.2.2.2.2.2.2.2.2.2.2.2.2.2.2.2.2.2.2.2.2.2.2.2.2.2.2.2.2.2.2.2.2.1 q
                                                                                                    exact hv
                                                                                                  · have q5_48 := q
                                                                                                    clear q
                                                                                                    by_cases q : and32 ((G.2.2 (((ii : Nat) : Int).toNat)).toInt) 127 = 49
                                                                                                    · refine sw_tsIn (tgt := 1860) (dL_law_0.at 21 rfl) hv.1 (by omega) (by omega) (by rw [q]; rfl) (by decide) ?_
                                                                                                      replace hv := hv.2.2.2.2.2.2.2.2.2.2.2.2.2.2.2.2.2.2.2.2.2.2.2.2.2.2.2.2.2.2.2.2.2.2.2.2.2.2.2.2.2.2.2.2.2.2.2.2.2.2.1 q
                                                                                                      exact hv
                                                                                                    · have q5_49 := q
                                                                                                      clear q
                                                                                                      by_cases q : and32 ((G.2.2 (((ii : Nat) : Int).toNat)).toInt) 127 = 50
                                                                                                      · refine sw_tsIn (tgt := 1893) (dL_law_0.at 21 rfl) hv.1 (by omega) (by omega) (by rw [q]; rfl) (by decide) ?_
                                                                                                        replace hv := hv.2.2.2.2.2.2.2.2.2.2.2.2.2.2.2.2.2.2.2.2.2.2.2.2.2.2.2.2.2.2.2.2.2.2.2.2.2.2.2.2.2.2.2.2.2.2.2.2.2.2.2.1 q
                                                                                                        exact hv
                                                                                                      · have q5_50 := q
                                                                                                        clear q
                                                                                                        by_cases q : and32 ((G.2.2 (((ii : Nat) : Int).toNat)).toInt) 127 = 51
                                                                                                        · refine sw_tsIn (tgt := 1946) (dL_law_0.at 21 rfl) hv.1 (by omega) (by omega) (by rw [q]; rfl) (by decide) ?_
                                                                                                          replace hv := hv.2.2.2.2.2.2.2.2.2.2.2.2.2.2.2.2.2.2.2.2.2.2.2.2.2.2.2.2.2.2.2.2.2.2.2.2.2.2.2.2.2.2.2.2.2.2.2.2.2.2.2.2.1 q
                                                                                                          exact hv
                                                                                                        · have q5_51 := q
                                                                                                          clear q
                                                                                                          by_cases q : and32 ((G.2.2 (((ii : Nat) : Int).toNat)).toInt) 127 = 52
                                                                                                          · refine sw_tsIn (tgt := 1979) (dL_law_0.at 21 rfl) hv.1 (by omega) (by omega) (by rw [q]; rfl) (by decide) ?_
                                                                                                            replace hv := hv.2.2.2.2.2.2.2.2.2.2.2.2.2.2.2.2.2.2.2.2.2.2.2.2.2.2.2.2.2.2.2.2.2.2.2.2.2.2.2.2.2.2.2.2.2.2.2.2.2.2.2.2.2.1 q
                                                                                                            exact hv
                                                                                                          · have q5_52 := q
                                                                                                            clear q
                                                                                                            by_cases q : and32 ((G.2.2 (((ii : Nat) : Int).toNat)).toInt) 127 = 53
                                                                                                            · refine sw_tsIn (tgt := 2023) (dL_law_0.at 21 rfl) hv.1 (by omega) (by omega) (by rw [q]; rfl) (by decide) ?_
                                                                                                              replace hv := hv.2.2.2.2.2.2.2.2.2.2.2.2.2.2.2.2.2.2.2.2.2.2.2.2.2.2.2.2.2.2.2.2.2.2.2.2.2.2.2.2.2.2.2.2.2.2.2.2.2.2.2.2.2.2.1 q
                                                                                                              exact hv
                                                                                                            · have q5_53 := q
                                                                                                              clear q
                                                                                                              by_cases q : and32 ((G.2.2 (((ii : Nat) : Int).toNat)).toInt) 127 = 54
                                                                                                              · refine sw_tsIn (tgt := 2056) (dL_law_0.at 21 rfl) hv.1 (by omega) (by omega) (by rw [q]; rfl) (by decide) ?_
                                                                                                                replace hv := hv.2.2.2.2.2.2.2.2.2.2.2.2.2.2.2.2.2.2.2.2.2.2.2.2.2.2.2.2.2.2.2.2.2.2.2.2.2.2.2.2.2.2.2.2.2.2.2.2.2.2.2.2.2.2.2.1 q
                                                                                                                exact hv
                                                                                                              · have q5_54 := q
                                                                                                                clear q
                                                                                                                by_cases q : and32 ((G.2.2 (((ii : Nat) : Int).toNat)).toInt) 127 = 55
                                                                                                                · refine sw_tsIn (tgt := 2089) (dL_law_0.at 21 rfl) hv.1 (by omega) (by omega) (by rw [q]; rfl) (by decide) ?_
                                                                                                                  replace hv := hv.2.2.2.2.2.2.2.2.2.2.2.2.2.2.2.2.2.2.2.2.2.2.2.2.2.2.2.2.2.2.2.2.2.2.2.2.2.2.2.2.2.2.2.2.2.2.2.2.2.2.2.2.2.2.2.2.1 q
                                                                                                                  exact hv
                                                                                                                · have q5_55 := q
                                                                                                                  clear q
                                                                                                                  by_cases q : and32 ((G.2.2 (((ii : Nat) : Int).toNat)).toInt) 127 = 56
                                                                                                                  · refine sw_tsIn (tgt := 2112) (dL_law_0.at 21 rfl) hv.1 (by omega) (by omega) (by rw [q]; rfl) (by decide) ?_
                                                                                                                    replace hv := hv.2.2.2.2.2.2.2.2.2.2.2.2.2.2.2.2.2.2.2.2.2.2.2.2.2.2.2.2.2.2.2.2.2.2.2.2.2.2.2.2.2.2.2.2.2.2.2.2.2.2.2.2.2.2.2.2.2.1 q
                                                                                                                    exact hv
                                                                                                                  · have q5_56 := q
                                                                                                                    clear q
                                                                                                                    by_cases q : and32 ((G.2.2 (((ii : Nat) : Int).toNat)).toInt) 127 = 57
                                                                                                                    · refine sw_tsIn (tgt := 2135) (dL_law_0.at 21 rfl) hv.1 (by omega) (by omega) (by rw [q]; rfl) (by decide) ?_
                                                                                                                      replace hv := hv.2.2.2.2.2.2.2.2.2.2.2.2.2.2.2.2.2.2.2.2.2.2.2.2.2.2.2.2.2.2.2.2.2.2.2.2.2.2.2.2.2.2.2.2.2.2.2.2.2.2.2.2.2.2.2.2.2.2.1 q
                                                                                                                      exact hv
                                                                                                                    · have q5_57 := q
                                                                                                                      clear q
                                                                                                                      by_cases q : and32 ((G.2.2 (((ii : Nat) : Int).toNat)).toInt) 127 = 58
                                                                                                                      · refine sw_tsIn (tgt := 2149) (dL_law_0.at 21 rfl) hv.1 (by omega) (by omega) (by rw [q]; rfl) (by decide) ?_
                                                                                                                        replace hv := hv.2.2.2.2.2.2.2.2.2.2.2.2.2.2.2.2.2.2.2.2.2.2.2.2.2.2.2.2.2.2.2.2.2.2.2.2.2.2.2.2.2.2.2.2.2.2.2.2.2.2.2.2.2.2.2.2.2.2.2.1 q
                                                                                                                        exact hv
                                                                                                                      · have q5_58 := q
                                                                                                                        clear q
                                                                                                                        by_cases q : and32 ((G.2.2 (((ii : Nat) : Int).toNat)).toInt) 127 = 59
                                                                                                                        · refine sw_tsIn (tgt := 2163) (dL_law_0.at 21 rfl) hv.1 (by omega) (by omega) (by rw [q]; rfl) (by decide) ?_
                                                                                                                          replace hv := hv.2.2.2.2.2.2.2.2.2.2.2.2.2.2.2.2.2.2.2.2.2.2.2.2.2.2.2.2.2.2.2.2.2.2.2.2.2.2.2.2.2.2.2.2.2.2.2.2.2.2.2.2.2.2.2.2.2.2.2.2.1 q
                                                                                                                          exact hv
                                                                                                                        · have q5_59 := q
                                                                                                                          clear q
                                                                                                                          by_cases q : and32 ((G.2.2 (((ii : Nat) : Int).toNat)).toInt) 127 = 60
                                                                                                                          · refine sw_tsIn (tgt := 2177) (dL_law_0.at 21 rfl) hv.1 (by omega) (by omega) (by rw [q]; rfl) (by decide) ?_
                                                                                                                            replace hv := hv.2.2.2.2.2.2.2.2.2.2.2.2.2.2.2.2.2.2.2.2.2.2.2.2.2.2.2.2.2.2.2.2.2.2.2.2.2.2.2.2.2.2.2.2.2.2.2.2.2.2.2.2.2.2.2.2.2.2.2.2.2.1 q
                                                                                                                            exact hv
                                                                                                                          · have q5_60 := q
                                                                                                                            clear q
                                                                                                                            by_cases q : and32 ((G.2.2 (((ii : Nat) : Int).toNat)).toInt) 127 = 61
                                                                                                                            · refine sw_tsIn (tgt := 2200) (dL_law_0.at 21 rfl) hv.1 (by omega) (by omega) (by rw [q]; rfl) (by decide) ?_
                                                                                                                              replace hv := hv.2.2.2.2.2.2.2.2.2.2.2.2.2.2.2.2.2.2.2.2.2.2.2.2.2.2.2.2.2.2.2.2.2.2.2.2.2.2.2.2.2.2.2.2.2.2.2.2.2.2.2.2.2.2.2.2.2.2.2.2.2.2.1 q
                                                                                                                              exact hv
                                                                                                                            · have q5_61 := q
                                                                                                                              clear q
                                                                                                                              by_cases q : and32 ((G.2.2 (((ii : Nat) : Int).toNat)).toInt) 127 = 62
                                                                                                                              · refine sw_tsIn (tgt := 2213) (dL_law_0.at 21 rfl) hv.1 (by omega) (by omega) (by rw [q]; rfl) (by decide) ?_
                                                                                                                                replace hv := hv.2.2.2.2.2.2.2.2.2.2.2.2.2.2.2.2.2.2.2.2.2.2.2.2.2.2.2.2.2.2.2.2.2.2.2.2.2.2.2.2.2.2.2.2.2.2.2.2.2.2.2.2.2.2.2.2.2.2.2.2.2.2.2.1 q
                                                                                                                                exact hv
                                                                                                                              · have q5_62 := q
                                                                                                                                clear q
                                                                                                                                by_cases q : and32 ((G.2.2 (((ii : Nat) : Int).toNat)).toInt) 127 = 63
                                                                                                                                · refine sw_tsIn (tgt := 2236) (dL_law_0.at 21 rfl) hv.1 (by omega) (by omega) (by rw [q]; rfl) (by decide) ?_
                                                                                                                                  replace hv := hv.2.2.2.2.2.2.2.2.2.2.2.2.2.2.2.2.2.2.2.2.2.2.2.2.2.2.2.2.2.2.2.2.2.2.2.2.2.2.2.2.2.2.2.2.2.2.2.2.2.2.2.2.2.2.2.2.2.2.2.2.2.2.2.2.1 q
                                                                                                                                  exact hv
                                                                                                                                · have q5_63 := q
                                                                                                                                  clear q
                                                                                                                                  by_cases q : and32 ((G.2.2 (((ii : Nat) : Int).toNat)).toInt) 127 = 64
                                                                                                                                  · refine sw_tsIn (tgt := 2259) (dL_law_0.at 21 rfl) hv.1 (by omega) (by omega) (by rw [q]; rfl) (by decide) ?_
                                                                                                                                    replace hv := hv.2.2.2.2.2.2.2.2.2.2.2.2.2.2.2.2.2.2.2.2.2.2.2.2.2.2.2.2.2.2.2.2.2.2.2.2.2.2.2.2.2.2.2.2.2.2.2.2.2.2.2.2.2.2.2.2.2.2.2.2.2.2.2.2.2.1 q
                                                                                                                                    exact hv
                                                                                                                                  · have q5_64 := q
                                                                                                                                    clear q
                                                                                                                                    by_cases q : and32 ((G.2.2 (((ii : Nat) : Int).toNat)).toInt) 127 = 65
                                                                                                                                    · refine sw_tsIn (tgt := 2282) (dL_law_0.at 21 rfl) hv.1 (by omega) (by omega) (by rw [q]; rfl) (by decide) ?_
                                                                                                                                      replace hv := hv.2.2.2.2.2.2.2.2.2.2.2.2.2.2.2.2.2.2.2.2.2.2.2.2.2.2.2.2.2.2.2.2.2.2.2.2.2.2.2.2.2.2.2.2.2.2.2.2.2.2.2.2.2.2.2.2.2.2.2.2.2.2.2.2.2.2.1 q
                                                                                                                                      exact hv
                                                                                                                                    · have q5_65 := q
                                                                                                                                      clear q
                                                                                                                                      by_cases q : and32 ((G.2.2 (((ii : Nat) : Int).toNat)).toInt) 127 = 66
                                                                                                                                      · refine sw_tsIn (tgt := 2295) (dL_law_0.at 21 rfl) hv.1 (by omega) (by omega) (by rw [q]; rfl) (by decide) ?_
                                                                                                                                        replace hv := hv.2.2.2.2.2.2.2.2.2.2.2.2.2.2.2.2.2.2.2.2.2.2.2.2.2.2.2.2.2.2.2.2.2.2.2.2.2.2.2.2.2.2.2.2.2.2.2.2.2.2.2.2.2.2.2.2.2.2.2.2.2.2.2.2.2.2.2.1 q
                                                                                                                                        exact hv
                                                                                                                                      · have q5_66 := q
                                                                                                                                        clear q
                                                                                                                                        have q : and32 ((G.2.2 (((ii : Nat) : Int).toNat)).toInt) 127 < 0 ∨ 66 < and32 ((G.2.2 (((ii : Nat) : Int).toNat)).toInt) 127 := by omega
                                                                                                                                        refine sw_tsOut (tgt := 2308) (dL_law_0.at 21 rfl) hv.1 q (by decide) ?_
                                                                                                                                        replace hv := hv.2.2.2.2.2.2.2.2.2.2.2.2.2.2.2.2.2.2.2.2.2.2.2.2.2.2.2.2.2.2.2.2.2.2.2.2.2.2.2.2.2.2.2.2.2.2.2.2.2.2.2.2.2.2.2.2.2.2.2.2.2.2.2.2.2.2.2.2 q
                                                                                                                                        exact hv

set_option maxHeartbeats 2000000 in
set_option maxRecDepth 20000 in
theorem g_law_18 {G : GG} {j nw nx gn : Nat} {g : Nat → Sh} {c : Nat → Nat → Int} {post : Option AV → AM → Prop} {BL : BB} {ii : Nat} (hG : G.2.1 < 2147483648) (hB1 : BL.1 ≤ BL.2.2.1) (hB2 : BL.2.1 ≤ BL.2.2.2)  (hv : (ii < 2147483648) ∧ (-2147483648 ≤ ((G.2.1 : Nat) : Int) - 6 ∧ ((G.2.1 : Nat) : Int) - 6 < 2147483648) ∧ (((((G.2.1 : Nat) : Int) - 6 < ((ii : Nat) : Int)) → post (some (vi (1))) (S nw nx g, 78 + gn, c)) ∧ ((¬ (((G.2.1 : Nat) : Int) - 6 < ((ii : Nat) : Int))) → SW G (j + 40) mL_law 27 [some (vf 0), some (vr (0)), some (vr (49)), some (vi (((ii : Nat) : Int)))] [] (S nw nx g, 78 + gn, c) BL post))) :
    SW G (j + 40) mL_law 18 [some (vf 0), some (vr (0)), some (vr (49)), some (vi (((ii : Nat) : Int)))] [] (S nw nx g, 78 + gn, c) BL post := by
  refine sw_iload_n (dL_law_0.at 10 rfl) rfl rfl ?_
  refine sw_aload_nf (dL_law_0.at 11 rfl) rfl rfl ?_
  refine sw_slen (dL_law_0.at 12 rfl) ?_
  refine sw_bipush (dL_law_0.at 13 rfl) (by decide) ?_
  refine sw_isub (dL_law_0.at 14 rfl) ?_
  refine sw_icmp_gt (tgt := 2314) (dL_law_0.at 15 rfl) (by decide) (nrng hv.1) hv.2.1 (fun q => ?_) (fun q => ?_)
  · replace hv := hv.2.2.1 q
    refine sw_iconst (dL_law_32.at 14 rfl) ?_
    exact sw_zret (dL_law_32.at 15 rfl) rfl (by decide) hB1 hB2 hv
  · replace hv := hv.2.2.2 q
    exact hv

set_option maxHeartbeats 2000000 in
set_option maxRecDepth 20000 in
theorem g_law_2308 {G : GG} {j nw nx gn : Nat} {g : Nat → Sh} {c : Nat → Nat → Int} {post : Option AV → AM → Prop} {BL : BB} {ii : Nat}  (hv : SW G (j + 40) mL_law 18 [some (vf 0), some (vr (0)), some (vr (49)), some (vi (((ii + 6 : Nat) : Int)))] [] (S nw nx g, 78 + gn, c) BL post) :
    SW G (j + 40) mL_law 2308 [some (vf 0), some (vr (0)), some (vr (49)), some (vi (((ii : Nat) : Int)))] [] (S nw nx g, 78 + gn, c) BL post := by
  refine sw_iinc (lo' := [some (vf 0), some (vr (0)), some (vr (49)), some (vi (((ii + 6 : Nat) : Int)))]) (dL_law_32.at 12 rfl) rfl (by decide) rfl ?_
  refine sw_goto (tgt := 18) (dL_law_32.at 13 rfl) (by decide) ?_
  exact hv

set_option maxHeartbeats 8000000 in
/-- one turn of the law's loop -/
theorem law_turn {G : GG} {j nw nx gn : Nat} {g : Nat → Sh} {c : Nat → Nat → Int} {post : Option AV → AM → Prop} {ii b1 b2 : Nat} (hG : G.2.1 < 2147483648) (hcl : HCls) (hb1 : b1 ≤ 10000) (hb2 : b2 ≤ 200000) (hii : ii + 6 ≤ G.2.1) (he : EINV c nw nx)
    (K : ∀ (nw2 nx2 gn2 : Nat) (g2 : Nat → Sh) (c2 : Nat → Nat → Int) (d1 d2 : Nat), d1 ≤ b1 + 1 → d2 ≤ b2 + 5 → EINV c2 nw2 nx2 → SW G (j + 40) mL_law 2308 [some (vf 0), some (vr (0)), some (vr (49)), some (vi (((ii : Nat) : Int)))] [] (S nw2 nx2 g2, 78 + gn2, c2) (d1, d2, 600000, 7302250) post) : SW G (j + 40) mL_law 27 [some (vf 0), some (vr (0)), some (vr (49)), some (vi (((ii : Nat) : Int)))] [] (S nw nx g, 78 + gn, c) (b1, b2, 600000, 7302250) post := by
  have he0 := he
  obtain ⟨P, T, ln, bo, n, nb, MT, MA, hv⟩ := he
  have hB1 : b1 ≤ 600000 := by omega
  have hB2 : b2 ≤ 7302250 := by omega
  refine g_law_27 (BL := (b1, b2, 600000, 7302250)) hG ?_
  refine ⟨?_, ?_, ⟨?_, fun q => ?_, fun q => ?_, fun q => ?_, fun q => ?_, fun q => ?_, fun q => ?_, fun q => ?_, fun q => ?_, fun q => ?_, fun q => ?_, fun q => ?_, fun q => ?_, fun q => ?_, fun q => ?_, fun q => ?_, fun q => ?_, fun q => ?_, fun q => ?_, fun q => ?_, fun q => ?_, fun q => ?_, fun q => ?_, fun q => ?_, fun q => ?_, fun q => ?_, fun q => ?_, fun q => ?_, fun q => ?_, fun q => ?_, fun q => ?_, fun q => ?_, fun q => ?_, fun q => ?_, fun q => ?_, fun q => ?_, fun q => ?_, fun q => ?_, fun q => ?_, fun q => ?_, fun q => ?_, fun q => ?_, fun q => ?_, fun q => ?_, fun q => ?_, fun q => ?_, fun q => ?_, fun q => ?_, fun q => ?_, fun q => ?_, fun q => ?_, fun q => ?_, fun q => ?_, fun q => ?_, fun q => ?_, fun q => ?_, fun q => ?_, fun q => ?_, fun q => ?_, fun q => ?_, fun q => ?_, fun q => ?_, fun q => ?_, fun q => ?_, fun q => ?_, fun q => ?_, fun q => ?_, fun q => ?_, fun q => ?_⟩⟩
  · omega
  · omega
  · exact i32rng _
  · exact cs_feed hG (show b1 + 1 ≤ 600000 by omega) (show b2 + 5 ≤ 7302250 by omega) hii hv (fun g2 gn2 c2 ⟨_, _, h⟩ => K _ _ _ _ _ _ _ (Nat.le_refl _) (Nat.le_refl _) ⟨_, _, _, _, _, _, _, _, h⟩)
  · exact cs_end hG hB1 hB2 hii hv (fun c2 ⟨_, _, h⟩ => K _ _ _ _ _ _ _ (Nat.le_add_right _ _) (Nat.le_add_right _ _) ⟨_, _, _, _, _, _, _, _, h⟩)
  · exact cs_group hcl hB1 hB2 hv (fun nw2 nx2 c2 h => K _ _ _ _ _ _ _ (Nat.le_add_right _ _) (Nat.le_add_right _ _) h)
  · exact cs_fault hG hB1 hB2 hii hv (fun c2 ⟨_, _, h⟩ => K _ _ _ _ _ _ _ (Nat.le_add_right _ _) (Nat.le_add_right _ _) ⟨_, _, _, _, _, _, _, _, h⟩)
  · exact cs_count hG hB1 hB2 hii hv (fun c2 ⟨_, _, h⟩ => K _ _ _ _ _ _ _ (Nat.le_add_right _ _) (Nat.le_add_right _ _) ⟨_, _, _, _, _, _, _, _, h⟩)
  · exact cs_bond hG hB1 hB2 hii hv (fun c2 h => K _ _ _ _ _ _ _ (Nat.le_add_right _ _) (Nat.le_add_right _ _) ⟨_, _, _, _, _, _, _, _, h⟩)
  · exact cs_length hG hB1 hB2 hii hv (fun c2 h => K _ _ _ _ _ _ _ (Nat.le_add_right _ _) (Nat.le_add_right _ _) ⟨_, _, _, _, _, _, _, _, h⟩)
  · exact cs_letter hG hB1 hB2 hii hv (fun c2 h => K _ _ _ _ _ _ _ (Nat.le_add_right _ _) (Nat.le_add_right _ _) ⟨_, _, _, _, _, _, _, _, h⟩)
  · exact cs_element hB1 hB2 hv (fun c2 ⟨_, _, h⟩ => K _ _ _ _ _ _ _ (Nat.le_add_right _ _) (Nat.le_add_right _ _) ⟨_, _, _, _, _, _, _, _, h⟩)
  · exact cs_spellings hG hB1 hB2 hii hv (fun c2 h => K _ _ _ _ _ _ _ (Nat.le_add_right _ _) (Nat.le_add_right _ _) ⟨_, _, _, _, _, _, _, _, h⟩)
  · exact cs_spelled hG hB1 hB2 hii hv (fun c2 h => K _ _ _ _ _ _ _ (Nat.le_add_right _ _) (Nat.le_add_right _ _) ⟨_, _, _, _, _, _, _, _, h⟩)
  · exact cs_times hG hB1 hB2 hii hv (fun c2 h => K _ _ _ _ _ _ _ (Nat.le_add_right _ _) (Nat.le_add_right _ _) ⟨_, _, _, _, _, _, _, _, h⟩)
  · exact cs_inverse hG hB1 hB2 hii hv (fun c2 h => K _ _ _ _ _ _ _ (Nat.le_add_right _ _) (Nat.le_add_right _ _) ⟨_, _, _, _, _, _, _, _, h⟩)
  · exact cs_order hG hB1 hB2 hii hv (fun c2 h => K _ _ _ _ _ _ _ (Nat.le_add_right _ _) (Nat.le_add_right _ _) ⟨_, _, _, _, _, _, _, _, h⟩)
  · exact cs_descents hG hB1 hB2 hii hv (fun c2 h => K _ _ _ _ _ _ _ (Nat.le_add_right _ _) (Nat.le_add_right _ _) ⟨_, _, _, _, _, _, _, _, h⟩)
  · exact cs_reflection hG hB1 hB2 hii hv (fun c2 h => K _ _ _ _ _ _ _ (Nat.le_add_right _ _) (Nat.le_add_right _ _) ⟨_, _, _, _, _, _, _, _, h⟩)
  · exact cs_below hG hB1 hB2 hii hv (fun c2 h => K _ _ _ _ _ _ _ (Nat.le_add_right _ _) (Nat.le_add_right _ _) ⟨_, _, _, _, _, _, _, _, h⟩)
  · exact cs_covers hG hB1 hB2 hii hv (fun c2 h => K _ _ _ _ _ _ _ (Nat.le_add_right _ _) (Nat.le_add_right _ _) ⟨_, _, _, _, _, _, _, _, h⟩)
  · exact cs_interval hG hB1 hB2 hii hv (fun c2 h => K _ _ _ _ _ _ _ (Nat.le_add_right _ _) (Nat.le_add_right _ _) ⟨_, _, _, _, _, _, _, _, h⟩)
  · exact cs_layer hG hB1 hB2 hii hv (fun c2 h => K _ _ _ _ _ _ _ (Nat.le_add_right _ _) (Nat.le_add_right _ _) ⟨_, _, _, _, _, _, _, _, h⟩)
  · exact cs_chains hG hB1 hB2 hii hv (fun c2 h => K _ _ _ _ _ _ _ (Nat.le_add_right _ _) (Nat.le_add_right _ _) ⟨_, _, _, _, _, _, _, _, h⟩)
  · exact cs_layers hG hB1 hB2 hii hv (fun c2 h => K _ _ _ _ _ _ _ (Nat.le_add_right _ _) (Nat.le_add_right _ _) ⟨_, _, _, _, _, _, _, _, h⟩)
  · exact cs_r hG hB1 hB2 hii hv (fun c2 h => K _ _ _ _ _ _ _ (Nat.le_add_right _ _) (Nat.le_add_right _ _) ⟨_, _, _, _, _, _, _, _, h⟩)
  · exact cs_p hG hB1 hB2 hii hv (fun c2 h => K _ _ _ _ _ _ _ (Nat.le_add_right _ _) (Nat.le_add_right _ _) ⟨_, _, _, _, _, _, _, _, h⟩)
  · exact cs_degree hG hB1 hB2 hii hv (fun c2 h => K _ _ _ _ _ _ _ (Nat.le_add_right _ _) (Nat.le_add_right _ _) ⟨_, _, _, _, _, _, _, _, h⟩)
  · exact cs_mu hG hB1 hB2 hii hv (fun c2 h => K _ _ _ _ _ _ _ (Nat.le_add_right _ _) (Nat.le_add_right _ _) ⟨_, _, _, _, _, _, _, _, h⟩)
  · exact cs_at hG hB1 hB2 hii hv (fun c2 h => K _ _ _ _ _ _ _ (Nat.le_add_right _ _) (Nat.le_add_right _ _) ⟨_, _, _, _, _, _, _, _, h⟩)
  · exact cs_q hG hB1 hB2 hii hv (fun c2 h => K _ _ _ _ _ _ _ (Nat.le_add_right _ _) (Nat.le_add_right _ _) ⟨_, _, _, _, _, _, _, _, h⟩)
  · exact cs_smooth hG hB1 hB2 hii hv (fun c2 h => K _ _ _ _ _ _ _ (Nat.le_add_right _ _) (Nat.le_add_right _ _) ⟨_, _, _, _, _, _, _, _, h⟩)
  · exact cs_tallest hG hB1 hB2 hii hv (fun c2 h => K _ _ _ _ _ _ _ (Nat.le_add_right _ _) (Nat.le_add_right _ _) ⟨_, _, _, _, _, _, _, _, h⟩)
  · exact cs_crooked hG hB1 hB2 hii hv (fun c2 h => K _ _ _ _ _ _ _ (Nat.le_add_right _ _) (Nat.le_add_right _ _) ⟨_, _, _, _, _, _, _, _, h⟩)
  · exact cs_crookedPair hG hB1 hB2 hii hv (fun c2 h => K _ _ _ _ _ _ _ (Nat.le_add_right _ _) (Nat.le_add_right _ _) ⟨_, _, _, _, _, _, _, _, h⟩)
  · exact cs_cell hG hB1 hB2 hii hv (fun c2 h => K _ _ _ _ _ _ _ (Nat.le_add_right _ _) (Nat.le_add_right _ _) ⟨_, _, _, _, _, _, _, _, h⟩)
  · exact cs_cellOf hG hB1 hB2 hii hv (fun c2 h => K _ _ _ _ _ _ _ (Nat.le_add_right _ _) (Nat.le_add_right _ _) ⟨_, _, _, _, _, _, _, _, h⟩)
  · exact cs_cellMany hG hB1 hB2 hii hv (fun c2 h => K _ _ _ _ _ _ _ (Nat.le_add_right _ _) (Nat.le_add_right _ _) ⟨_, _, _, _, _, _, _, _, h⟩)
  · exact cs_under hG hB1 hB2 hii hv (fun c2 h => K _ _ _ _ _ _ _ (Nat.le_add_right _ _) (Nat.le_add_right _ _) ⟨_, _, _, _, _, _, _, _, h⟩)
  · exact cs_product hG hB1 hB2 hii hv (fun c2 h => K _ _ _ _ _ _ _ (Nat.le_add_right _ _) (Nat.le_add_right _ _) ⟨_, _, _, _, _, _, _, _, h⟩)
  · exact cs_least hG hB1 hB2 hii hv (fun c2 h => K _ _ _ _ _ _ _ (Nat.le_add_right _ _) (Nat.le_add_right _ _) ⟨_, _, _, _, _, _, _, _, h⟩)
  · exact cs_longest hG hB1 hB2 hii hv (fun c2 h => K _ _ _ _ _ _ _ (Nat.le_add_right _ _) (Nat.le_add_right _ _) ⟨_, _, _, _, _, _, _, _, h⟩)
  · exact cs_inside hG hB1 hB2 hii hv (fun c2 h => K _ _ _ _ _ _ _ (Nat.le_add_right _ _) (Nat.le_add_right _ _) ⟨_, _, _, _, _, _, _, _, h⟩)
  · exact cs_hecke hG hB1 hB2 hii hv (fun c2 h => K _ _ _ _ _ _ _ (Nat.le_add_right _ _) (Nat.le_add_right _ _) ⟨_, _, _, _, _, _, _, _, h⟩)
  · exact cs_weakly hG hB1 hB2 hii hv (fun c2 h => K _ _ _ _ _ _ _ (Nat.le_add_right _ _) (Nat.le_add_right _ _) ⟨_, _, _, _, _, _, _, _, h⟩)
  · exact cs_meet hG hB1 hB2 hii hv (fun c2 h => K _ _ _ _ _ _ _ (Nat.le_add_right _ _) (Nat.le_add_right _ _) ⟨_, _, _, _, _, _, _, _, h⟩)
  · exact cs_join hG hB1 hB2 hii hv (fun c2 h => K _ _ _ _ _ _ _ (Nat.le_add_right _ _) (Nat.le_add_right _ _) ⟨_, _, _, _, _, _, _, _, h⟩)
  · exact cs_moves hG hB1 hB2 hii hv (fun c2 h => K _ _ _ _ _ _ _ (Nat.le_add_right _ _) (Nat.le_add_right _ _) ⟨_, _, _, _, _, _, _, _, h⟩)
  · exact cs_inversions hG hB1 hB2 hii hv (fun c2 h => K _ _ _ _ _ _ _ (Nat.le_add_right _ _) (Nat.le_add_right _ _) ⟨_, _, _, _, _, _, _, _, h⟩)
  · exact cs_mirrors hG hB1 hB2 hii hv (fun c2 h => K _ _ _ _ _ _ _ (Nat.le_add_right _ _) (Nat.le_add_right _ _) ⟨_, _, _, _, _, _, _, _, h⟩)
  · exact cs_mirror hG hB1 hB2 hii hv (fun c2 h => K _ _ _ _ _ _ _ (Nat.le_add_right _ _) (Nat.le_add_right _ _) ⟨_, _, _, _, _, _, _, _, h⟩)
  · exact cs_cosets hG hB1 hB2 hii hv (fun c2 h => K _ _ _ _ _ _ _ (Nat.le_add_right _ _) (Nat.le_add_right _ _) ⟨_, _, _, _, _, _, _, _, h⟩)
  · exact cs_coset hG hB1 hB2 hii hv (fun c2 h => K _ _ _ _ _ _ _ (Nat.le_add_right _ _) (Nat.le_add_right _ _) ⟨_, _, _, _, _, _, _, _, h⟩)
  · exact cs_pBy hG hB1 hB2 hii hv (fun c2 h => K _ _ _ _ _ _ _ (Nat.le_add_right _ _) (Nat.le_add_right _ _) ⟨_, _, _, _, _, _, _, _, h⟩)
  · exact cs_weakMany hG hB1 hB2 hii hv (fun c2 h => K _ _ _ _ _ _ _ (Nat.le_add_right _ _) (Nat.le_add_right _ _) ⟨_, _, _, _, _, _, _, _, h⟩)
  · exact cs_paths hG hB1 hB2 hii hv (fun c2 h => K _ _ _ _ _ _ _ (Nat.le_add_right _ _) (Nat.le_add_right _ _) ⟨_, _, _, _, _, _, _, _, h⟩)
  · exact cs_sided hG hB1 hB2 hii hv (fun c2 h => K _ _ _ _ _ _ _ (Nat.le_add_right _ _) (Nat.le_add_right _ _) ⟨_, _, _, _, _, _, _, _, h⟩)
  · exact cs_euler hG hB1 hB2 hii hv (fun c2 h => K _ _ _ _ _ _ _ (Nat.le_add_right _ _) (Nat.le_add_right _ _) ⟨_, _, _, _, _, _, _, _, h⟩)
  · exact cs_conjugate hG hB1 hB2 hii hv (fun c2 h => K _ _ _ _ _ _ _ (Nat.le_add_right _ _) (Nat.le_add_right _ _) ⟨_, _, _, _, _, _, _, _, h⟩)
  · exact cs_conjugates hG hB1 hB2 hii hv (fun c2 h => K _ _ _ _ _ _ _ (Nat.le_add_right _ _) (Nat.le_add_right _ _) ⟨_, _, _, _, _, _, _, _, h⟩)
  · exact cs_ideal hG hB1 hB2 hii hv (fun c2 h => K _ _ _ _ _ _ _ (Nat.le_add_right _ _) (Nat.le_add_right _ _) ⟨_, _, _, _, _, _, _, _, h⟩)
  · exact cs_peaks hG hB1 hB2 hii hv (fun c2 h => K _ _ _ _ _ _ _ (Nat.le_add_right _ _) (Nat.le_add_right _ _) ⟨_, _, _, _, _, _, _, _, h⟩)
  · exact cs_marked hG hB1 hB2 hii hv (fun c2 h => K _ _ _ _ _ _ _ (Nat.le_add_right _ _) (Nat.le_add_right _ _) ⟨_, _, _, _, _, _, _, _, h⟩)
  · exact cs_mark hG hB1 hB2 hii hv (fun c2 ⟨_, _, h⟩ => K _ _ _ _ _ _ _ (Nat.le_add_right _ _) (Nat.le_add_right _ _) ⟨_, _, _, _, _, _, _, _, h⟩)
  · exact cs_thin hG hB1 hB2 hii hv (fun c2 ⟨_, _, h⟩ => K _ _ _ _ _ _ _ (Nat.le_add_right _ _) (Nat.le_add_right _ _) ⟨_, _, _, _, _, _, _, _, h⟩)
  · exact cs_shift hG hB1 hB2 hii hv (fun c2 ⟨_, _, h⟩ => K _ _ _ _ _ _ _ (Nat.le_add_right _ _) (Nat.le_add_right _ _) ⟨_, _, _, _, _, _, _, _, h⟩)
  · exact cs_image hG hB1 hB2 hii hv (fun c2 ⟨_, _, h⟩ => K _ _ _ _ _ _ _ (Nat.le_add_right _ _) (Nat.le_add_right _ _) ⟨_, _, _, _, _, _, _, _, h⟩)
  · exact cs_back hG hB1 hB2 hii hv (fun c2 ⟨_, _, h⟩ => K _ _ _ _ _ _ _ (Nat.le_add_right _ _) (Nat.le_add_right _ _) ⟨_, _, _, _, _, _, _, _, h⟩)
  · exact cs_undo hG hB1 hB2 hii hv (fun c2 ⟨_, _, h⟩ => K _ _ _ _ _ _ _ (Nat.le_add_right _ _) (Nat.le_add_right _ _) ⟨_, _, _, _, _, _, _, _, h⟩)
  · exact cs_anew hG hB1 hB2 hii hv (fun c2 ⟨_, _, h⟩ => K _ _ _ _ _ _ _ (Nat.le_add_right _ _) (Nat.le_add_right _ _) ⟨_, _, _, _, _, _, _, _, h⟩)
  · exact K _ _ _ _ _ _ _ (Nat.le_add_right _ _) (Nat.le_add_right _ _) he0
set_option maxHeartbeats 4000000 in
/-- the law's loop -/
theorem law_lp {G : GG} {j : Nat} (hG : G.2.1 ≤ 3072) (hcl : HCls) : ∀ (k ii nw nx gn : Nat) (g : Nat → Sh) (c : Nat → Nat → Int) (b1 b2 : Nat), G.2.1 ≤ ii + 6 * k → ii ≤ 3072 → b1 ≤ 78 + ii → b2 ≤ 128873 + ii → EINV c nw nx → SW G (j + 40) mL_law 18 [some (vf 0), some (vr (0)), some (vr (49)), some (vi (((ii : Nat) : Int)))] [] (S nw nx g, 78 + gn, c) (b1, b2, 600000, 7302250) (fun r _ => r = some (vi 1)) := by
  intro k
  induction k with
  | zero =>
    intro ii nw nx gn g c b1 b2 hk hi h1 h2 he
    refine g_law_18 (BL := (b1, b2, 600000, 7302250)) (by omega) (show b1 ≤ 600000 by omega) (show b2 ≤ 7302250 by omega) ?_
    refine ⟨?_, ?_, ⟨fun q => ?_, fun q => ?_⟩⟩
    all_goals first | omega | rfl | (exfalso; omega)
  | succ k ih =>
    intro ii nw nx gn g c b1 b2 hk hi h1 h2 he
    refine g_law_18 (BL := (b1, b2, 600000, 7302250)) (by omega) (show b1 ≤ 600000 by omega) (show b2 ≤ 7302250 by omega) ?_
    refine ⟨?_, ?_, ⟨fun q => ?_, fun q => ?_⟩⟩
    all_goals first | omega | rfl | skip
    refine law_turn (by omega) hcl (by omega) (by omega) (by omega) he (fun nw2 nx2 gn2 g2 c2 d1 d2 e1 e2 h => ?_)
    refine g_law_2308 ?_
    exact ih _ _ _ _ _ _ _ _ (by omega) (by omega) (by omega) (by omega) h

